/-! ===== THE CLASS: A MINUTE ===== -/
def zBit (v : Int32) (k : Nat) : Prop := (v >>> (nI k &&& 31)) &&& nI 1 = nI 1
theorem zBit_sh : ∀ k : Fin 8, (nI k.val &&& 31).toBitVec.smod 32 = BitVec.ofNat 32 k.val := by decide +kernel
theorem zBit_iff {k : Nat} (hk : k < 8) (v : Int32) : zBit v k ↔ v.toBitVec.getLsbD k = true := by
  rw [zBit, ← Int32.toBitVec_inj, Int32.toBitVec_and, Int32.toBitVec_shiftRight, zBit_sh ⟨k, hk⟩, show (nI 1).toBitVec = 1#32 from by decide, BitVec.and_one_eq_setWidth_ofBool_getLsbD, BitVec.sshiftRight', BitVec.getLsbD_sshiftRight]
  have e1 : (BitVec.ofNat 32 k).toNat = k := by rw [BitVec.toNat_ofNat]; omega
  rw [e1, Nat.add_zero, if_pos (by omega), show (!decide (32 ≤ 0)) = true from by decide, Bool.true_and]
  cases v.toBitVec.getLsbD k <;> decide
theorem zBit_1 : ∀ p q : Fin 8, (nI 1 <<< (nI p.val &&& 31)).toBitVec.getLsbD q.val = decide (p.val = q.val) := by decide +kernel
theorem zBit_2 : ∀ p q : Fin 8, ((nI 1 <<< (nI p.val &&& 31)) ^^^ (-1)).toBitVec.getLsbD q.val = !decide (p.val = q.val) := by decide +kernel
theorem zBit_or {v : Int32} {p q : Nat} (hp : p < 8) (hq : q < 8) : zBit (v ||| (nI 1 <<< (nI p &&& 31))) q ↔ zBit v q ∨ p = q := by
  rw [zBit_iff hq, zBit_iff hq, Int32.toBitVec_or, BitVec.getLsbD_or, zBit_1 ⟨p, hp⟩ ⟨q, hq⟩, Bool.or_eq_true, decide_eq_true_iff]
theorem zBit_and {v : Int32} {p q : Nat} (hp : p < 8) (hq : q < 8) : zBit (v &&& ((nI 1 <<< (nI p &&& 31)) ^^^ (-1))) q ↔ zBit v q ∧ ¬ p = q := by
  rw [zBit_iff hq, zBit_iff hq, Int32.toBitVec_and, BitVec.getLsbD_and, zBit_2 ⟨p, hp⟩ ⟨q, hq⟩, Bool.and_eq_true, Bool.not_eq_true', decide_eq_false_iff_not]
section
variable {N : Nat → Int32} {k : Nat}
theorem sDone_s (hO : zOk N) (hk : k < zn (N 5)) {s : Nat} (s1 : N (42 + 21 * k + 0) = nI s) (s3 : s < 5) : sDry N k (42 + 21 * k + 0) = nI s := by
  rw [sDry_n hO hk s1 s3 (by omega) (by omega) (by omega)]; exact s1
theorem sTube_e {w : Nat} (h6 : w ≠ 6) (h7 : w ≠ 7) (h9 : w ≠ 9) : sTube N k w = sLose (sDry N k) k (sOut N k) w := by
  rw [sTube, pk_un h9, sFor, sThumb_n h6 h7]; rfl
theorem sTube_4 (hO : zOk N) (hk : k < zn (N 5)) : sTube N k (42 + 21 * k + 4) = N (42 + 21 * k + 4) - sLk N k - sOut N k := by
  obtain ⟨s, s1, s2, s3⟩ := hO.S hk
  rw [sTube_e (by omega) (by omega) (by omega), sLose_f (sDone_s hO hk s1 s3) s3, sDry_4 hO hk]
theorem sTube_w (hO : zOk N) (hk : k < zn (N 5)) : sTube N k (42 + 21 * k + 5) = sWarm N k (42 + 21 * k + 5) := by
  obtain ⟨s, s1, s2, s3⟩ := hO.S hk
  rw [sTube, pk_un (by omega), sFor_w s1 s3]
theorem sTube_l (hO : zOk N) (hk : k < zn (N 5)) {s : Nat} (s1 : N (42 + 21 * k + 0) = nI s) (s3 : s < 5) : sTube N k (10 + 4 * s + 3) = N (10 + 4 * s + 3) + (sLk N k + sOut N k) := by
  have e1 : sDry N k (10 + 4 * s + 3) = N (10 + 4 * s + 3) + sLk N k := by
    rw [sDry_c hO hk, sLk]
    split
    · rw [sLose_l (by rw [sWarm_n (by omega)]; exact s1) s3, sWarm_n (by omega)]
    · rw [sWarm_n (by omega), add_nI0]
  rw [sTube_e (by omega) (by omega) (by omega), sLose_l (sDone_s hO hk s1 s3) s3, e1, Int32.add_assoc]
theorem sTube_9 (hO : zOk N) (hk : k < zn (N 5)) : sTube N k 9 = if 0 < sOut N k then N 9 ||| (nI 1 <<< (nI k &&& 31)) else N 9 &&& ((nI 1 <<< (nI k &&& 31)) ^^^ (-1)) := by
  obtain ⟨s, s1, s2, s3⟩ := hO.S hk
  rw [sTube, pk_us, sFor_n s1 s3 (by omega) (by omega) (by omega) (by omega) (by omega)]
theorem sTube_67 (hO : zOk N) (hk : k < zn (N 5)) : (sTube N k 6 = if N 6 = nI k then (if N 7 - nI 1 = 0 then (-1) else nI k) else N 6) ∧ sTube N k 7 = if N 6 = nI k then N 7 - nI 1 else N 7 := by
  obtain ⟨s, s1, s2, s3⟩ := hO.S hk
  have hM : ∀ w, w < 8 → sLose (sDry N k) k (sOut N k) w = N w := fun w hw => by
    rw [sLose_n (sDone_s hO hk s1 s3) s3 (by omega) (by omega), sDry_n hO hk s1 s3 (by omega) (by omega) (by omega)]
  have e : ∀ w, w < 8 → sTube N k w = sThumb (sLose (sDry N k) k (sOut N k)) k w := fun w hw => by rw [sTube, pk_un (by omega)]; rfl
  rw [e 6 (by omega), e 7 (by omega), sThumb, hM 6 (by omega)]
  by_cases h : N 6 = nI k
  · rw [if_pos h, if_pos h, if_pos h, pk_us, pk_un (by decide), pk_us, hM 7 (by omega)]
    exact ⟨rfl, rfl⟩
  · rw [if_neg h, if_neg h, if_neg h]
    exact ⟨hM 6 (by omega), hM 7 (by omega)⟩
end
def sEt (f : Nat → Int32) (t : Int32) : Nat → Int32 := if f 11 = t then (if f 12 - nI 1 ≤ 0 then upd (upd f 12 (f 12 - nI 1)) 11 (-1) else upd f 12 (f 12 - nI 1)) else f
theorem sEt_n {f : Nat → Int32} {t : Int32} {w : Nat} (h1 : w ≠ 11) (h2 : w ≠ 12) : sEt f t w = f w := by
  rw [sEt]
  split
  · split
    · rw [pk_un h1, pk_un h2]
    · rw [pk_un h2]
  · rfl
set_option maxHeartbeats 4000000 in
set_option maxRecDepth 20000 in
theorem c_X0_endThumbMinute {E : Ev} {g : Sh} {i : Ni} {j : Nj} {K : Kp} {A0 : Nat} {t : Int32} (h1 : gT g A0 = 1) (hK : K (.inl none) g (wA i A0 (sEt (i A0) t)) j) : zCon E mX0_endThumbMinute [.ref A0, .int t] g i j K := by
  refine zcon_of (by decide +kernel) rfl rfl (lo := [.ref A0, .int t]) rfl (fun X => ?_)
  refine r_aload_n qX0_endThumbMinute_0 rfl ?_
  refine r_geti qX0_endThumbMinute_1 fX0_37 rfl (by assumption) ?_
  refine r_iload_n qX0_endThumbMinute_4 rfl ?_
  refine r_icmp_ne (t := 30) qX0_endThumbMinute_5 (by decide) (fun hc5 => ?_) (fun hc5 => ?_)
  · try simp only [wA_s, wA_wA]
    refine r_vret qX0_endThumbMinute_30 rfl rfl rfl ?_
    first | (rw [sEt, if_neg hc5, wA_self] at hK; exact hK) | (rw [sEt, if_pos hc5, if_neg (Int32.not_le.mpr hc22)] at hK; exact hK) | (rw [sEt, if_pos hc5, if_pos (Int32.not_lt.mp hc22)] at hK; exact hK)
  · refine r_aload_n qX0_endThumbMinute_8 rfl ?_
    refine r_dup qX0_endThumbMinute_9 rfl ?_
    refine r_geti qX0_endThumbMinute_10 fX0_61 rfl (by assumption) ?_
    refine r_iconst (v := nI 1) qX0_endThumbMinute_13 (by decide) ?_
    refine r_isub qX0_endThumbMinute_14 ?_
    refine r_puti qX0_endThumbMinute_15 fX0_61 (Or.inl rfl) rfl rfl rfl (by assumption) ?_
    refine r_aload_n qX0_endThumbMinute_18 rfl ?_
    refine r_geti qX0_endThumbMinute_19 fX0_61 rfl (by assumption) ?_
    rw [wA_s, pk_us]
    refine r_if_gt (t := 30) qX0_endThumbMinute_22 (by decide) (fun hc22 => ?_) (fun hc22 => ?_)
    · try simp only [wA_s, wA_wA]
      refine r_vret qX0_endThumbMinute_30 rfl rfl rfl ?_
      first | (rw [sEt, if_neg hc5, wA_self] at hK; exact hK) | (rw [sEt, if_pos hc5, if_neg (Int32.not_le.mpr hc22)] at hK; exact hK) | (rw [sEt, if_pos hc5, if_pos (Int32.not_lt.mp hc22)] at hK; exact hK)
    · refine r_aload_n qX0_endThumbMinute_25 rfl ?_
      refine r_iconst (v := (-1)) qX0_endThumbMinute_26 (by decide) ?_
      refine r_puti qX0_endThumbMinute_27 fX0_37 (Or.inl rfl) rfl rfl rfl (by assumption) ?_
      try simp only [wA_s, wA_wA]
      refine r_vret qX0_endThumbMinute_30 rfl rfl rfl ?_
      first | (rw [sEt, if_neg hc5, wA_self] at hK; exact hK) | (rw [sEt, if_pos hc5, if_neg (Int32.not_le.mpr hc22)] at hK; exact hK) | (rw [sEt, if_pos hc5, if_pos (Int32.not_lt.mp hc22)] at hK; exact hK)
theorem zCnt.thumb {f N : Nat → Int32} {k : Nat} (hO : zOk N) (hk : k < zn (N 5)) (h : zCnt f N) : zCnt (sEt f (nI k)) (sTube N k) := by
  obtain ⟨s, s1, s2, s3⟩ := hO.S hk
  have h8 := hO.k8 hk
  obtain ⟨c5, c6, c7, c8, c9, c10, c11, c12⟩ := h
  have e : ∀ w, w < 6 → sTube N k w = N w := fun w hw => sTube_n s1 s3 (by omega) (by omega) (by omega) (by omega) (by omega) (by omega)
  obtain ⟨e6, e7⟩ := sTube_67 hO hk
  refine ⟨by rw [sEt_n (by decide) (by decide), e 3 (by omega)]; exact c5, by rw [sEt_n (by decide) (by decide), e 4 (by omega)]; exact c6, by rw [sEt_n (by decide) (by decide), e 5 (by omega)]; exact c7, by rw [sEt_n (by decide) (by decide), e 2 (by omega)]; exact c8, by rw [sEt_n (by decide) (by decide), e 0 (by omega)]; exact c9, by rw [sEt_n (by decide) (by decide), e 1 (by omega)]; exact c10, ?_, ?_⟩
  · rw [e6, sEt, c11, c12]
    by_cases h6 : N 6 = nI k
    · obtain ⟨-, -, -, -, -, o6, -⟩ := hO
      rcases o6 with o6 | ⟨-, o7⟩
      · exact absurd (h6.symm.trans o6) (nb_m1 (by omega))
      · rw [if_pos h6, if_pos h6]
        have hs := sub_in o7 (show zIn (nI 1) 1 1 from ⟨by decide, by decide⟩) (by decide) (by decide) (by decide) (by decide)
        rw [show (nI 1).toInt = 1 by decide] at hs
        obtain ⟨o71, o72⟩ := o7
        by_cases h0 : N 7 - nI 1 = 0
        · rw [if_pos h0, if_pos (by rw [h0]; decide), pk_us]
        · rw [if_neg h0, if_neg (fun hle => h0 ?_), pk_un (by decide), c11]
          · exact h6
          · rw [Int32.le_iff_toInt_le, show (0 : Int32).toInt = 0 by decide] at hle
            refine Int32.toInt_inj.mp ?_
            rw [show (0 : Int32).toInt = 0 by decide]
            omega
    · rw [if_neg h6, if_neg h6]; exact c11
  · rw [e7, sEt, c11, c12]
    by_cases h6 : N 6 = nI k
    · rw [if_pos h6, if_pos h6]
      split
      · rw [pk_un (by decide), pk_us]
      · rw [pk_us]
    · rw [if_neg h6, if_neg h6]; exact c12
theorem zH.minute {g : Sh} {i : Ni} {a : Nat → Nat} {N : Nat → Int32} {k : Nat} {F : Nat → Int32} (hC : zC g a) (h : zH i a N) (hk : k < zn (N 5)) (F10 : F 10 = N (42 + 21 * k + 4) - sLk N k - sOut N k) (F11 : F 11 = sWarm N k (42 + 21 * k + 5)) (F15 : F 15 = i (a (6 + 3 * k)) 15 + (sLk N k + sOut N k)) (Fo : ∀ f, f ≠ 10 → f ≠ 11 → f ≠ 15 → f ≠ 16 → F f = i (a (6 + 3 * k)) f) : zH (wA (wA i (a (6 + 3 * k)) F) (a 0) (sEt (i (a 0)) (nI k))) a (sTube N k) := by
  obtain ⟨f0, f3, f4, f6, f7, f8, f9, f10, f11, f12, f13, fP⟩ := h.tu hk
  have hO := h.1
  obtain ⟨s, s1, s2, s3⟩ := hO.S hk
  have h8 := hO.k8 hk
  have hS5 := hO.S5.2
  have hT8 := hO.T8.2
  have hm := (hO.many hk).2
  have e : ∀ w, w ≠ 42 + 21 * k + 5 → w ≠ 42 + 21 * k + 4 → w ≠ 10 + 4 * s + 3 → w ≠ 6 → w ≠ 7 → w ≠ 9 → sTube N k w = N w := fun w => sTube_n s1 s3
  have mm : ∀ c, c < 30 → c ≠ 6 + 3 * k → c ≠ 0 → wA (wA i (a (6 + 3 * k)) F) (a 0) (sEt (i (a 0)) (nI k)) (a c) = i (a c) := fun c hc h1 h2 => by rw [wA_n (hC.inj hc (by omega) h2), wA_n (hC.inj hc (by omega) h1)]
  have em : sMany (sTube N k) k = sMany N k := by rw [sMany, sMany, e _ (by omega) (by omega) (by omega) (by omega) (by omega) (by omega)]
  have eu : wA (wA i (a (6 + 3 * k)) F) (a 0) (sEt (i (a 0)) (nI k)) (a (6 + 3 * k)) = F := by rw [wA_n (hC.inj (by omega) (by omega) (by omega)), wA_s]
  refine h.step (g := g) (k := k) (y := nI 0) (e := sLk N k + sOut N k) (sTube_ok hO hk) hk (e _ (by omega) (by omega) (by omega) (by omega) (by omega) (by omega)) (e _ (by omega) (by omega) (by omega) (by omega) (by omega) (by omega)) (e _ (by omega) (by omega) (by omega) (by omega) (by omega) (by omega)) (by rw [e _ (by omega) (by omega) (by omega) (by omega) (by omega) (by omega), add_nI0]) (fun z hz => ⟨e _ (by omega) (by omega) (by omega) (by omega) (by omega) (by omega), e _ (by omega) (by omega) (by omega) (by omega) (by omega) (by omega), e _ (by omega) (by omega) (by omega) (by omega) (by omega) (by omega)⟩) (fun z hz => ?_) (fun q a b => e _ (by omega) (by omega) (by omega) (by omega) (by omega) (by omega)) (fun q hq hqk z hz => e _ (by omega) (by omega) (by omega) (by omega) (by omega) (by omega)) (e _ (by omega) (by omega) (by omega) (by omega) (by omega) (by omega)) ?_ (fun c hc c0 c1 _ _ => mm c hc c1 c0) ?_ ?_ ?_ ?_
  · by_cases hz2 : z = s
    · subst hz2
      rw [sTube_l hO hk s1 s3, if_pos s1]
    · rw [e _ (by omega) (by omega) (by omega) (by omega) (by omega) (by omega), if_neg (fun h => hz2 ((nI_eq (by omega) (by omega)).mp (h.symm.trans s1))), add_nI0]
  · rw [wA_s]; exact zCnt.thumb hO hk h.cnt
  · rw [eu, mm _ (by omega) (by omega) (by omega), mm _ (by omega) (by omega) (by omega)]
    refine ⟨by rw [Fo _ (by decide) (by decide) (by decide) (by decide)]; exact f0, by rw [Fo _ (by decide) (by decide) (by decide) (by decide), e _ (by omega) (by omega) (by omega) (by omega) (by omega) (by omega)]; exact f3, by rw [Fo _ (by decide) (by decide) (by decide) (by decide), e _ (by omega) (by omega) (by omega) (by omega) (by omega) (by omega)]; exact f4, by rw [Fo _ (by decide) (by decide) (by decide) (by decide), e (42 + 21 * k + 0) (by omega) (by omega) (by omega) (by omega) (by omega) (by omega), s1, zn_nI (by omega), e _ (by omega) (by omega) (by omega) (by omega) (by omega) (by omega), f6, s1, zn_nI (by omega)], by rw [Fo _ (by decide) (by decide) (by decide) (by decide), e _ (by omega) (by omega) (by omega) (by omega) (by omega) (by omega)]; exact f7, by rw [Fo _ (by decide) (by decide) (by decide) (by decide), e _ (by omega) (by omega) (by omega) (by omega) (by omega) (by omega)]; exact f8, by rw [Fo _ (by decide) (by decide) (by decide) (by decide), e _ (by omega) (by omega) (by omega) (by omega) (by omega) (by omega)]; exact f9, by rw [F10, sTube_4 hO hk], by rw [F11, sTube_w hO hk], by rw [Fo _ (by decide) (by decide) (by decide) (by decide), e _ (by omega) (by omega) (by omega) (by omega) (by omega) (by omega)]; exact f12, by rw [Fo _ (by decide) (by decide) (by decide) (by decide), e _ (by omega) (by omega) (by omega) (by omega) (by omega) (by omega)]; exact f13, fun p hp => ?_⟩
    rw [em] at hp
    rw [sDeg, sHgt, e _ (by omega) (by omega) (by omega) (by omega) (by omega) (by omega), e _ (by omega) (by omega) (by omega) (by omega) (by omega) (by omega)]; exact fP p hp
  · rw [eu, Fo _ (by decide) (by decide) (by decide) (by decide)]
  · rw [eu, Fo _ (by decide) (by decide) (by decide) (by decide), add_nI0]
  · rw [eu, F15]
theorem sLost_e (N : Nat → Int32) : ∀ m, sLost N m = sAdd (fun s => N (10 + 4 * s + 3)) m
  | 0 => rfl
  | m + 1 => by rw [sLost, sAdd, sLost_e N m]
theorem sLost_tube {N : Nat → Int32} {k : Nat} (hO : zOk N) (hk : k < zn (N 5)) : sLost (sTube N k) (zn (N 3)) = sLost N (zn (N 3)) + (sLk N k + sOut N k) := by
  obtain ⟨s, s1, s2, s3⟩ := hO.S hk
  have h8 := hO.k8 hk
  have hS5 := hO.S5.2
  rw [sLost_e, sLost_e]
  exact sAdd_at _ s2 (fun q hq hqs => sTube_n s1 s3 (by omega) (by omega) (by omega) (by omega) (by omega) (by omega)) (sTube_l hO hk s1 s3)
theorem i32_ac (a c l : Int32) : a - c + l = a + l - c := by
  rw [Int32.sub_eq_add_neg, Int32.sub_eq_add_neg, Int32.add_assoc, Int32.add_comm (-c), ← Int32.add_assoc]
theorem sLost_m {N : Nat → Int32} {v : Int32} {m : Nat} : sLost (upd N 2 v) m = sLost N m := by
  rw [sLost_e, sLost_e]
  exact sAdd_c _ (fun q hq => pk_un (by omega))
set_option maxHeartbeats 4000000 in
set_option maxRecDepth 20000 in
theorem c_X0_passMinutes {E : Ev} {g : Sh} {i : Ni} {j : Nj} {K : Kp} {a : Nat → Nat} {N : Nat → Int32} {n : Nat} (hC : zC g a) (hH : zH i a N) (hn : n < 1000) (hK : ∀ i' : Ni, zH i' a (sWalk N n) → zOu a i' i → (n ≠ 0 → ∀ q, q < zn (N 5) → (0 < i' (a (6 + 3 * q)) 16 ↔ zBit (sWalk N n 9) q)) → K (.inl (some (.int (sLost (sWalk N n) (zn (N 3)) - sLost N (zn (N 3)))))) g i' j) : zCon E mX0_passMinutes [.ref (a 0), .int (nI n)] g i j K := by
  refine zcon_of (by decide +kernel) rfl rfl (lo := [.ref (a 0), .int (nI n), zJ, zJ, zJ]) rfl (fun X => ?_)
  have hO := hH.1
  obtain ⟨hT5, hT8⟩ := hO.T8
  obtain ⟨a1, a2, a3, a4, a5, a6, a7, a8, a9, a10, a11, a12, a13, a14, a15, a16, -⟩ := id hC
  have K22 : ∀ (c : Nat) (M : Nat → Int32), c < n → M = upd (sWalk N c) 2 (sWalk N c 2 + nI 1) → (∀ i1 : Ni, zH i1 a (sTubes M (zn (N 5))) → zOu a i1 i → (∀ q, q < zn (N 5) → (0 < i1 (a (6 + 3 * q)) 16 ↔ zBit (sTubes M (zn (N 5)) 9) q)) → ∀ y : Value, zR E mX0_passMinutes (zZ E mX0_passMinutes K) X 4 [.ref (a 0), .int (nI n), .int (sLost (sTubes M (zn (N 5))) (zn (N 3)) - sLost N (zn (N 3))), .int (nI (c + 1)), y] [] g i1 j 0 0) → ∀ q p : Nat, p + q = zn (N 5) → ∀ i1 : Ni, zH i1 a (sTubes M p) → zOu a i1 i → (∀ q, q < p → (0 < i1 (a (6 + 3 * q)) 16 ↔ zBit (sTubes M p 9) q)) → zR E mX0_passMinutes (zZ E mX0_passMinutes K) X 22 [.ref (a 0), .int (nI n), .int (sLost (sTubes M p) (zn (N 3)) - sLost N (zn (N 3))), .int (nI c), .int (nI p)] [] g i1 j 0 0 := by
    intro c M hcn hM hEnd q
    have hOM : zOk M := by rw [hM]; exact (sWalk_ok hO c).1.up (Or.inl rfl)
    have eM5 : M 5 = N 5 := by rw [hM, pk_un (by decide)]; exact (sWalk_ok hO c).2
    have eM3 : M 3 = N 3 := by rw [hM, pk_un (by decide)]; exact sWalk_3 hO c
    induction q with
    | zero =>
      intro p hp i1 H1 ou hb
      obtain rfl : p = zn (N 5) := by omega
      have e5 : sTubes M (zn (N 5)) 5 = N 5 := (sTubes_ok hOM (by rw [eM5]; exact Nat.le_refl _)).2.trans eM5
      have c7 := H1.cnt.2.2.1.trans (e5.trans hT5)
      refine r_iload qX0_passMinutes_22 rfl ?_
      refine r_aload_n qX0_passMinutes_24 rfl ?_
      refine r_geti qX0_passMinutes_25 fX0_52 rfl (by assumption) ?_
      rw [c7]
      refine r_icmp_ge (t := 75) qX0_passMinutes_28 (by decide) (fun hc28 => ?_) (fun hc28 => absurd hc28 (fun h => h (nI_le (Nat.le_refl _) (by omega))))
      refine r_ii_5_3 qX0_passMinutes_75 rfl rfl (nI_inc c) ?_
      refine r_goto (t := 4) qX0_passMinutes_78 (by decide) ?_
      exact hEnd i1 H1 ou hb _
    | succ q ih =>
      intro p hp i1 H1 ou hb
      have e5 : sTubes M p 5 = N 5 := (sTubes_ok hOM (by rw [eM5]; omega)).2.trans eM5
      have e3 : sTubes M p 3 = N 3 := (sTubes_3 hOM (by rw [eM5]; omega)).trans eM3
      have hO1 := H1.1
      have hk1 : p < zn (sTubes M p 5) := by rw [e5]; omega
      obtain ⟨c5, c6, c7, c8, c9, c10, c11, c12⟩ := H1.cnt
      obtain ⟨tb1, hT⟩ := hC.tb (show p < 8 by omega)
      have hU := H1.tu hk1
      have u1 := hT.1
      have c7' := c7.trans (e5.trans hT5)
      have eL := sLost_tube hO1 hk1
      rw [e3] at eL
      refine r_iload qX0_passMinutes_22 rfl ?_
      refine r_aload_n qX0_passMinutes_24 rfl ?_
      refine r_geti qX0_passMinutes_25 fX0_52 rfl (by assumption) ?_
      rw [c7']
      refine r_icmp_ge (t := 75) qX0_passMinutes_28 (by decide) (fun hc28 => absurd hc28 (nI_ge (by omega) (by omega))) (fun hc28 => ?_)
      refine r_iload_n qX0_passMinutes_31 rfl ?_
      refine r_aload_n qX0_passMinutes_32 rfl ?_
      refine r_getr qX0_passMinutes_33 fX0_26 rfl (by assumption) (by first | assumption | rfl) ?_
      refine r_iload qX0_passMinutes_36 rfl ?_
      refine r_aaldN qX0_passMinutes_38 (by first | exact Or.inl (by assumption) | exact Or.inr (by assumption)) (by assumption) (by omega) rfl (by first | assumption | rfl) ?_
      refine r_aload_n qX0_passMinutes_39 rfl ?_
      refine r_geti qX0_passMinutes_40 fX0_55 rfl (by assumption) ?_
      rw [c8]
      refine r_aload_n qX0_passMinutes_43 rfl ?_
      refine r_aload_n qX0_passMinutes_44 rfl ?_
      refine r_getr qX0_passMinutes_45 fX0_26 rfl (by assumption) (by first | assumption | rfl) ?_
      refine r_iload qX0_passMinutes_48 rfl ?_
      refine r_aaldN qX0_passMinutes_50 (by first | exact Or.inl (by assumption) | exact Or.inr (by assumption)) (by assumption) (by omega) rfl (by first | assumption | rfl) ?_
      refine r_cv1 (cu2 := 0) (su2 := 0) qX0_passMinutes_51 kX0_85 rfl (by decide +kernel) (c := 0) (by assumption) (by decide) rfl rfl rfl rfl rfl rfl ?_
      refine c_X0_tenthsAround hC H1 hk1 ?_
      show zR E _ _ X 54 _ _ _ _ _ _ _
      refine r_aload_n qX0_passMinutes_54 rfl ?_
      refine r_geti qX0_passMinutes_55 fX0_33 rfl (by assumption) ?_
      rw [c10]
      refine r_cv3 (cu2 := 0) (su2 := 0) qX0_passMinutes_58 kX0_111 rfl (by decide +kernel) (c := 2) (by assumption) (by decide) rfl rfl rfl rfl rfl rfl ?_
      refine c_X2_passMinute hT hU hO1 hk1 (fun F F10 F11 F15 F16 Fo => ?_)
      show zR E _ _ X 61 _ _ _ _ _ _ _
      first | with_reducible refine r_iaddN qX0_passMinutes_61 ?_ | refine r_iadd qX0_passMinutes_61 ?_
      rw [i32_ac, ← eL]
      refine r_is_5_2 qX0_passMinutes_62 rfl rfl ?_
      refine r_aload_n qX0_passMinutes_63 rfl ?_
      refine r_iload qX0_passMinutes_64 rfl ?_
      refine r_cv1 (cu2 := 0) (su2 := 0) qX0_passMinutes_66 kX0_115 rfl (by decide +kernel) (c := 0) (by assumption) (by decide) rfl rfl rfl rfl rfl rfl ?_
      refine c_X0_endThumbMinute a1 ?_
      rw [wA_n (hC.inj (by omega) (by omega) (by omega))]
      show zR E _ _ X 69 _ _ _ _ _ _ _
      refine r_ii_5_4 qX0_passMinutes_69 rfl rfl (nI_inc p) ?_
      refine r_goto (t := 22) qX0_passMinutes_72 (by decide) ?_
      refine ih (p + 1) (by omega) _ (H1.minute hC hk1 F10 F11 F15 Fo) (fun r hr => by rw [wA_n (hr 0 (by omega)), wA_n (hr _ (by omega))]; exact ou r hr) (fun z hz => ?_)
      show _ ↔ zBit (sTube (sTubes M p) p 9) z
      rw [sTube_9 hO1 hk1, wA_n (hC.inj (by omega) (by omega) (by omega))]
      by_cases hzp : z = p
      · subst hzp
        rw [wA_s, F16]
        by_cases hs : 0 < sOut (sTubes M z) z
        · rw [if_pos hs, zBit_or (by omega) (by omega)]
          exact ⟨fun _ => Or.inr rfl, fun _ => hs⟩
        · rw [if_neg hs, zBit_and (by omega) (by omega)]
          exact ⟨fun h => absurd h hs, fun h => absurd rfl h.2⟩
      · rw [wA_n (hC.inj (by omega) (by omega) (by omega)), hb z (by omega)]
        by_cases hs : 0 < sOut (sTubes M p) p
        · rw [if_pos hs, zBit_or (by omega) (by omega)]
          exact ⟨Or.inl, fun h => h.resolve_right (fun h => hzp h.symm)⟩
        · rw [if_neg hs, zBit_and (by omega) (by omega)]
          exact ⟨fun h => ⟨h, fun h2 => hzp h2.symm⟩, fun h => h.1⟩
  have K4 : ∀ q c : Nat, c + q = n → ∀ i1 : Ni, zH i1 a (sWalk N c) → zOu a i1 i → (c ≠ 0 → ∀ q, q < zn (N 5) → (0 < i1 (a (6 + 3 * q)) 16 ↔ zBit (sWalk N c 9) q)) → ∀ y : Value, zR E mX0_passMinutes (zZ E mX0_passMinutes K) X 4 [.ref (a 0), .int (nI n), .int (sLost (sWalk N c) (zn (N 3)) - sLost N (zn (N 3))), .int (nI c), y] [] g i1 j 0 0 := by
    intro q
    induction q with
    | zero =>
      intro c hc i1 H1 ou hb y
      obtain rfl : c = n := by omega
      refine r_iload_n qX0_passMinutes_4 rfl ?_
      refine r_iload_n qX0_passMinutes_5 rfl ?_
      refine r_icmp_ge (t := 81) qX0_passMinutes_6 (by decide) (fun hc6 => ?_) (fun hc6 => absurd hc6 (fun h => h (nI_le (by omega) (by omega))))
      refine r_iload_n qX0_passMinutes_81 rfl ?_
      refine r_iret qX0_passMinutes_82 rfl rfl rfl rfl ?_
      exact hK i1 H1 ou hb
    | succ q ih =>
      intro c hc i1 H1 ou hb y
      obtain ⟨c5, c6, c7, c8, c9, c10, c11, c12⟩ := H1.cnt
      have eW : sTubes (upd (sWalk N c) 2 (sWalk N c 2 + nI 1)) (zn (N 5)) = sWalk N (c + 1) := by
        show _ = sOne (sWalk N c)
        rw [sOne, (sWalk_ok hO c).2]
      have z := K22 c _ (by omega) rfl (by rw [eW]; exact fun i2 H2 o2 b2 y2 => ih (c + 1) (by omega) i2 H2 o2 (fun _ => b2) y2) (zn (N 5)) 0 (by omega)
      refine r_iload_n qX0_passMinutes_4 rfl ?_
      refine r_iload_n qX0_passMinutes_5 rfl ?_
      refine r_icmp_ge (t := 81) qX0_passMinutes_6 (by decide) (fun hc6 => absurd hc6 (nI_ge (by omega) (by omega))) (fun hc6 => ?_)
      refine r_aload_n qX0_passMinutes_9 rfl ?_
      refine r_dup qX0_passMinutes_10 rfl ?_
      refine r_geti qX0_passMinutes_11 fX0_55 rfl (by assumption) ?_
      rw [c8]
      refine r_iconst (v := nI 1) qX0_passMinutes_14 (by decide) ?_
      first | with_reducible refine r_iaddN qX0_passMinutes_15 ?_ | refine r_iadd qX0_passMinutes_15 ?_
      refine r_puti qX0_passMinutes_16 fX0_55 (Or.inl rfl) rfl rfl rfl (by assumption) ?_
      refine r_iconst (v := nI 0) qX0_passMinutes_19 (by decide) ?_
      refine r_is_5_4 qX0_passMinutes_20 rfl rfl ?_
      have z2 := z _ (H1.min hC) (fun r hr => by rw [wA_n (hr 0 (by omega))]; exact ou r hr) (fun q hq => by omega)
      rw [show sTubes (upd (sWalk N c) 2 (sWalk N c 2 + nI 1)) 0 = upd (sWalk N c) 2 (sWalk N c 2 + nI 1) from rfl, sLost_m] at z2
      exact z2
  refine r_iconst (v := nI 0) qX0_passMinutes_0 (by decide) ?_
  refine r_is_5_2 qX0_passMinutes_1 rfl rfl ?_
  refine r_iconst (v := nI 0) qX0_passMinutes_2 (by decide) ?_
  refine r_is_5_3 qX0_passMinutes_3 rfl rfl ?_
  have z := K4 n 0 (by omega) i hH zOu.refl (fun h => absurd rfl h) zJ
  rw [show sWalk N 0 = N from rfl, Int32.sub_self] at z
  exact z


