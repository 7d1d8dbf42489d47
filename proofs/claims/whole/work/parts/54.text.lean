/-! ===== THE MODEL READS A TEXT ===== -/
def wd_gallery : Int64 := 2732909974
def wd_spirit : Int64 := 281322821
def wd_bath : Int64 := 40643
def wd_tube : Int64 := 409028
def wd_leak : Int64 := 239879
def wd_dip : Int64 := 3175
def wd_lift : Int64 := 242939
def wd_mark : Int64 := 257105
def wd_thumb : Int64 := 10801946
def wd_seal : Int64 := 377661
def wd_fill : Int64 := 124995
def wd_erase : Int64 := 3012746
def wd_room : Int64 := 365647
def wd_pass : Int64 := 316189
def zWd (h : Nat → Int64) : Prop := h 14 = wd_gallery ∧ h 15 = wd_spirit ∧ h 16 = wd_bath ∧ h 17 = wd_tube ∧ h 18 = wd_leak ∧ h 19 = wd_dip ∧ h 20 = wd_lift ∧ h 21 = wd_mark ∧ h 22 = wd_thumb ∧ h 23 = wd_seal ∧ h 24 = wd_fill ∧ h 25 = wd_erase ∧ h 26 = wd_room ∧ h 27 = wd_pass
def mStat (N B : Nat → Int32) (L t : Nat) : PE (Nat → Int32) := if isW B L t wd_spirit then mSpirit N B L t else if isW B L t wd_bath then mBath N B L t else if isW B L t wd_tube then mTube N B L t else if isW B L t wd_leak then mLeaky (nI 1) N B L t else if isW B L t wd_seal then mLeaky (nI 0) N B L t else if isW B L t wd_dip then mDip N B L t else if isW B L t wd_lift then mLift N B L t else if isW B L t wd_mark then mMark N B L t else if isW B L t wd_thumb then mThumb N B L t else if isW B L t wd_fill then mFill N B L t else if isW B L t wd_erase then mErase N B L t else if isW B L t wd_room then mRoom N B L t else if isW B L t wd_pass then mPass N B L t else .error (nI 1, t)
def mLoop (B : Nat → Int32) (L : Nat) : Nat → (Nat → Int32) → Nat → PE (Nat → Int32)
  | 0, N, t => .ok (t, N)
  | f + 1, N, t => if sKind B L t = 0 then .ok (t, N) else tB (mStat N B L t) fun t N => mLoop B L f N t
def aGal (v l : Int32) : Nat → Int32 := upd (upd (upd (fun _ => nI 0) 6 (-1)) 0 v) 1 l
def mGal (B : Nat → Int32) (L t : Nat) : PE (Nat → Int32) := if isW B L t wd_gallery then tB (tDeg B L (sNext B L t)) fun t v => tB (tNum B L (nI 1) (nI 20) t) fun t l => tB (tEnd B L False t) fun t _ => .ok (t, aGal v l) else .error (nI 1, t)
def mText (B : Nat → Int32) (L : Nat) : PE (Nat → Int32) := tB (mGal B L (sSkip B L L 0)) fun t N => mLoop B L L N t
theorem mStat_ok {N N' B : Nat → Int32} {L t t' : Nat} (h : zOk N) (hz : zZr N) (ht : t < L) (e : mStat N B L t = .ok (t', N')) : zKp2 N' t t' := by
  rw [mStat] at e
  by_cases q : isW B L t wd_spirit
  · rw [if_pos q] at e; exact mSpirit_ok h hz ht e
  rw [if_neg q] at e
  clear q
  by_cases q : isW B L t wd_bath
  · rw [if_pos q] at e; exact mBath_ok h hz ht e
  rw [if_neg q] at e
  clear q
  by_cases q : isW B L t wd_tube
  · rw [if_pos q] at e; exact mTube_ok h hz ht e
  rw [if_neg q] at e
  clear q
  by_cases q : isW B L t wd_leak
  · rw [if_pos q] at e; exact mLeaky_ok (Or.inr rfl) h hz ht e
  rw [if_neg q] at e
  clear q
  by_cases q : isW B L t wd_seal
  · rw [if_pos q] at e; exact mLeaky_ok (Or.inl rfl) h hz ht e
  rw [if_neg q] at e
  clear q
  by_cases q : isW B L t wd_dip
  · rw [if_pos q] at e; exact mDip_ok h hz ht e
  rw [if_neg q] at e
  clear q
  by_cases q : isW B L t wd_lift
  · rw [if_pos q] at e; exact mLift_ok h hz ht e
  rw [if_neg q] at e
  clear q
  by_cases q : isW B L t wd_mark
  · rw [if_pos q] at e; exact mMark_ok h hz ht e
  rw [if_neg q] at e
  clear q
  by_cases q : isW B L t wd_thumb
  · rw [if_pos q] at e; exact mThumb_ok h hz ht e
  rw [if_neg q] at e
  clear q
  by_cases q : isW B L t wd_fill
  · rw [if_pos q] at e; exact mFill_ok h hz ht e
  rw [if_neg q] at e
  clear q
  by_cases q : isW B L t wd_erase
  · rw [if_pos q] at e; exact mErase_ok h hz ht e
  rw [if_neg q] at e
  clear q
  by_cases q : isW B L t wd_room
  · rw [if_pos q] at e; exact mRoom_ok h hz ht e
  rw [if_neg q] at e
  clear q
  by_cases q : isW B L t wd_pass
  · rw [if_pos q] at e; exact mPass_ok h hz ht e
  rw [if_neg q] at e
  clear q
  cases e
theorem aGal_ok {v l : Int32} (hv : zIn v (-20) 150) (hl : zIn l 1 20) : zOk (aGal v l) ∧ zZr (aGal v l) := by
  have e : ∀ w, w ≠ 0 → w ≠ 1 → w ≠ 6 → aGal v l w = nI 0 := fun w a b c => by rw [aGal, pk_un b, pk_un a, pk_un c]
  have e6 : aGal v l 6 = -1 := by rw [aGal, pk_un (by omega), pk_un (by omega), pk_us]
  have e1 : aGal v l 1 = l := by rw [aGal, pk_us]
  have e0 : aGal v l 0 = v := by rw [aGal, pk_un (by omega), pk_us]
  refine ⟨⟨⟨0, e 3 (by omega) (by omega) (by omega), by omega⟩, ⟨0, e 4 (by omega) (by omega) (by omega), by omega⟩, ⟨0, e 5 (by omega) (by omega) (by omega), by omega⟩, by rw [e1]; exact hl, by rw [e0]; exact hv, Or.inl e6, ?_, ?_, ?_⟩, ?_, ?_⟩
  · intro s hs
    rw [e 3 (by omega) (by omega) (by omega), zn0] at hs
    omega
  · intro s hs
    rw [e 4 (by omega) (by omega) (by omega), zn0] at hs
    omega
  · intro s hs
    rw [e 5 (by omega) (by omega) (by omega), zn0] at hs
    omega
  · intro k _ _
    exact ⟨e _ (by omega) (by omega) (by omega), e _ (by omega) (by omega) (by omega)⟩
  · intro s _ _
    exact e _ (by omega) (by omega) (by omega)
theorem mGal_ok {N B : Nat → Int32} {L t t' : Nat} (e : mGal B L t = .ok (t', N)) : zOk N ∧ zZr N := by
  rw [mGal] at e
  split at e
  · obtain ⟨t1, a1, e1, e⟩ := tB_inv e
    obtain ⟨t2, a2, e2, e⟩ := tB_inv e
    obtain ⟨t3, a3, e3, e⟩ := tB_inv e
    injection e with e; injection e with e4 e5
    subst e5
    exact aGal_ok (tDeg_in e1).1 (tNum_zin e2 (by decide) (by decide))
  · cases e
theorem sKind_0 {B : Nat → Int32} {L t : Nat} (h : L ≤ t) : sKind B L t = 0 := by rw [sKind, if_pos h]
theorem mLoop_ok {B : Nat → Int32} {L : Nat} : ∀ (f : Nat) {N N' : Nat → Int32} {t t' : Nat}, zOk N → zZr N → mLoop B L f N t = .ok (t', N') → zOk N' ∧ zZr N'
  | 0, N, N', t, t', h, hz, e => by
    injection e with e; injection e with e4 e5
    subst e5; exact ⟨h, hz⟩
  | f + 1, N, N', t, t', h, hz, e => by
    rw [mLoop] at e
    split at e
    · injection e with e; injection e with e4 e5
      subst e5; exact ⟨h, hz⟩
    · rename_i hk
      obtain ⟨t1, a1, e1, e⟩ := tB_inv e
      have ht : t < L := by
        rcases Nat.lt_or_ge t L with h1 | h1
        · exact h1
        · exact absurd (sKind_0 h1) hk
      obtain ⟨o1, o2, -⟩ := mStat_ok h hz ht e1
      exact mLoop_ok f o1 o2 e
theorem mText_ok {N B : Nat → Int32} {L t' : Nat} (e : mText B L = .ok (t', N)) : zOk N ∧ zZr N := by
  obtain ⟨t1, a1, e1, e⟩ := tB_inv e
  obtain ⟨o1, o2⟩ := mGal_ok e1
  exact mLoop_ok L o1 o2 e
theorem w_isWord {E : Ev} {g : Sh} {i : Ni} {j : Nj} {K : Kp} {x n d b p s o r L t : Nat} {B N : Nat → Int32} {i0 : Ni} {j0 : Nj} {v : Int64} (hW : zW g x n d b p s o) (hG : zG x b r L B N i0 j0 t i j) (hK : K (.inl (some (.int (zb (isW B L t v))))) g i j) : zCon E mX4_isWord [.ref x, .long v] g i j K := by
  refine c_X4_isWord hW.1 ?_
  obtain ⟨z8, z6, z7, z9, z11, z10⟩ := hG.tok
  have hk4 := sKind_lt B L t
  have hl := sLtr_le B hG.1.2.2.2.1
  have hL6 := hG.1.2.1
  rw [zb_c (show (i x 7 = nI 1 ∧ i x 9 ≤ nI 8 ∧ j x 10 = v) ↔ isW B L t v by
    rw [z7, z9, z10, nI_eq (by omega) (by omega), nI_leI (by omega) (by omega)])]
  exact hK
theorem zE.put {x r w : Nat} {i0 i : Ni} {j0 j : Nj} {c : Int32} {f : Nat → Int32} (hr : r ≠ x) (h : zE x r i0 j0 c w i j) : zE x r i0 j0 c w (wA i r f) j := by
  obtain ⟨h1, h2, h3, f1, f2, f3, f4⟩ := h
  have e1 : wA i r f x = i x := wA_n (fun h => hr h.symm)
  exact ⟨by rw [e1]; exact h1, h2, by rw [e1]; exact h3, fun m a b c d e e3 e4 => by rw [e1]; exact f1 m a b c d e e3 e4, fun q h1 h2 => by rw [wA_n h2]; exact f2 q h1 h2, f3, f4⟩
theorem zG.j10 {x b r L t : Nat} {B N : Nat → Int32} {i0 i : Ni} {j0 j : Nj} (h : zG x b r L B N i0 j0 t i j) (m : Nat) (hm : m ≠ 10) : j x m = j0 x m := h.2.2.2.2.2.2.1 m hm
set_option maxHeartbeats 4000000 in
set_option maxRecDepth 20000 in
theorem c_X4_readGallery {E : Ev} {g : Sh} {i : Ni} {j : Nj} {K : Kp} {x n d b p s o r L t : Nat} {B N : Nat → Int32} {i0 : Ni} {j0 : Nj} (hW : zW g x n d b p s o) (hM : zM g x r) (hrx : r ≠ x) (hrb : r ≠ b) (hWd : zWd (j0 x)) (hG : zG x b r L B N i0 j0 t i j) (hK : ∀ i' j', zRes x b r L B i0 j0 (mGal B L t) i' j' → K (.inl none) g i' j') : zCon E mX4_readGallery [.ref x] g i j K := by
  refine zcon_of (by decide +kernel) rfl rfl (lo := [.ref x, zJ]) rfl (fun X => ?_)
  have w1 := hW.1
  obtain ⟨hM1, hM2, hM3, hM4⟩ := id hM
  have xr := Ne.symm hrx
  have e14 : j x 14 = wd_gallery := (hG.j10 14 (by decide)).trans hWd.1
  obtain ⟨z8, z6, z7, z9, z11, z10⟩ := hG.tok
  have Kb79 : ∀ (y : Value) (i1 : Ni) (j1 : Nj) (c : Int32) (w : Nat), zE x r i0 j0 c w i1 j1 → mGal B L t = .error (c, w) → zR E mX4_readGallery (zZ E mX4_readGallery K) X 79 [.ref x, .int (nI 210)] [] g i1 j1 0 0 := by
    intro y i1 j1 c w e he
    refine r_vret qX4_readGallery_79 rfl rfl rfl ?_
    refine hK _ _ ?_; rw [he]; exact e
  have Kb73 : ∀ (u : Int32) (i1 : Ni) (j1 : Nj) (c : Int32) (w : Nat), zE x r i0 j0 c w i1 j1 → mGal B L t = .error (c, w) → zR E mX4_readGallery (zZ E mX4_readGallery K) X 73 [.ref x, .int (nI 210)] [.int u, .int (nI 1), .ref r] g i1 j1 0 0 := by
    intro u i1 j1 c w e he
    have h0 := e.b
    refine r_iastN qX4_readGallery_73 (by assumption) (by assumption) (by omega) rfl ?_
    refine r_aload_n qX4_readGallery_74 rfl ?_
    refine r_iconst (v := nI 0) qX4_readGallery_75 (by decide) ?_
    refine r_cv1 (cu2 := 0) (su2 := 0) qX4_readGallery_76 kX4_300 rfl (by decide +kernel) (c := 4) (by assumption) (by decide) rfl rfl rfl rfl rfl rfl ?_
    refine cB_takeEnd w1 (by rw [wA_n xr]; exact h0) ?_
    show zR E _ _ X 79 _ _ _ _ _ _ _
    refine r_vret qX4_readGallery_79 rfl rfl rfl ?_
    refine hK _ _ ?_; rw [he]; exact e.put hrx
  have Kb60 : ∀ (u : Int32) (i1 : Ni) (j1 : Nj) (c : Int32) (w : Nat), zE x r i0 j0 c w i1 j1 → mGal B L t = .error (c, w) → zR E mX4_readGallery (zZ E mX4_readGallery K) X 60 [.ref x, .int (nI 210)] [.int u, .int (nI 0), .ref r] g i1 j1 0 0 := by
    intro u i1 j1 c w e he
    have h0 := e.b
    refine r_iastN qX4_readGallery_60 (by assumption) (by assumption) (by omega) rfl ?_
    refine r_aload_n qX4_readGallery_61 rfl ?_
    refine r_getr qX4_readGallery_62 fX4_24 rfl (by assumption) (by first | assumption | rfl) ?_
    refine r_iconst (v := nI 1) qX4_readGallery_65 (by decide) ?_
    refine r_aload_n qX4_readGallery_66 rfl ?_
    refine r_iconst (v := nI 1) qX4_readGallery_67 (by decide) ?_
    refine r_bipush (v := nI 20) qX4_readGallery_68 (by decide) ?_
    refine r_cv2 (cu2 := 0) (su2 := 0) qX4_readGallery_70 kX4_280 rfl (by decide +kernel) (c := 4) (by assumption) (by decide) rfl rfl rfl rfl rfl rfl ?_
    refine cB_takeNumber w1 (by rw [wA_n xr]; exact h0) ?_
    show zR E _ _ X 73 _ _ _ _ _ _ _
    exact Kb73 _ _ j1 c w (e.put hrx) he
  have K43 : isW B L t wd_gallery → ∀ (iA : Ni) (jA : Nj), zG x b r L B N i0 j0 (sNext B L t) iA jA → zR E mX4_readGallery (zZ E mX4_readGallery K) X 43 [.ref x, .int (nI 210)] [] g (wA iA r (ycp (fun _ => nI 0) (iA r) 210)) jA 0 0 := by
    intro hg iA jA GA
    refine r_ext (r := r) (f := fun _ => nI 0) hM3 (fun k hk => ?_) ?_
    · rw [wA_s, ycp, if_pos (by omega)]
    simp only [wA_wA]
    have G6 := GA.put hrx hrb (f := upd (fun _ => nI 0) 6 (-1)) rfl
    refine r_aload_n qX4_readGallery_43 rfl ?_
    refine r_getr qX4_readGallery_44 fX4_24 rfl (by assumption) (by first | assumption | rfl) ?_
    refine r_bipush (v := nI 6) qX4_readGallery_47 (by decide) ?_
    refine r_iconst (v := (-1)) qX4_readGallery_49 (by decide) ?_
    refine r_iastN qX4_readGallery_50 (by assumption) (by assumption) (by omega) rfl ?_
    simp only [wA_s, wA_wA]
    refine r_aload_n qX4_readGallery_51 rfl ?_
    refine r_getr qX4_readGallery_52 fX4_24 rfl (by assumption) (by first | assumption | rfl) ?_
    refine r_iconst (v := nI 0) qX4_readGallery_55 (by decide) ?_
    refine r_aload_n qX4_readGallery_56 rfl ?_
    refine r_cv0 (cu2 := 0) (su2 := 0) qX4_readGallery_57 kX4_297 rfl (by decide +kernel) (c := 4) (by assumption) (by decide) rfl rfl rfl rfl rfl rfl ?_
    refine w_deg hW hrx G6 (fun t0 v0 h0 ia0 ja0 G0 => ?_) (fun c w h u i2 j2 e => Kb60 u i2 j2 c w e (by rw [mGal, if_pos hg, h]; rfl))
    show zR E _ _ X 60 _ _ _ _ _ _ _
    refine r_iastN qX4_readGallery_60 (by assumption) (by assumption) (by omega) rfl ?_
    have H0 := G0.put (N' := upd (upd (fun _ => nI 0) 6 (-1)) 0 v0) hrx hrb (f := upd (ia0 r) 0 v0) (by rw [G0.row])
    refine r_aload_n qX4_readGallery_61 rfl ?_
    refine r_getr qX4_readGallery_62 fX4_24 rfl (by assumption) (by first | assumption | rfl) ?_
    refine r_iconst (v := nI 1) qX4_readGallery_65 (by decide) ?_
    refine r_aload_n qX4_readGallery_66 rfl ?_
    refine r_iconst (v := nI 1) qX4_readGallery_67 (by decide) ?_
    refine r_bipush (v := nI 20) qX4_readGallery_68 (by decide) ?_
    refine r_cv2 (cu2 := 0) (su2 := 0) qX4_readGallery_70 kX4_280 rfl (by decide +kernel) (c := 4) (by assumption) (by decide) rfl rfl rfl rfl rfl rfl ?_
    refine w_num hW hrx H0 (fun t1 v1 h1 ia1 ja1 G1 => ?_) (fun c w h u i2 j2 e => Kb73 u i2 j2 c w e (by rw [mGal, if_pos hg, h0, tB_o, h]; rfl))
    show zR E _ _ X 73 _ _ _ _ _ _ _
    refine r_iastN qX4_readGallery_73 (by assumption) (by assumption) (by omega) rfl ?_
    have H1 := G1.put (N' := aGal v0 v1) hrx hrb (f := upd (ia1 r) 1 v1) (by rw [G1.row]; rfl)
    refine r_aload_n qX4_readGallery_74 rfl ?_
    refine r_iconst (v := nI 0) qX4_readGallery_75 (by decide) ?_
    refine r_cv1 (cu2 := 0) (su2 := 0) qX4_readGallery_76 kX4_300 rfl (by decide +kernel) (c := 4) (by assumption) (by decide) rfl rfl rfl rfl rfl rfl ?_
    refine w_end (P := False) (dP := instDecidableFalse) hW hrx H1 (fun t2 v2 h2 hp ia2 ja2 G2 => ?_) (fun c w h i2 j2 e => Kb79 (.int 0) i2 j2 c w e (by rw [mGal, if_pos hg, h0, tB_o, h1, tB_o, h]; rfl))
    show zR E _ _ X 79 _ _ _ _ _ _ _
    refine r_vret qX4_readGallery_79 rfl rfl rfl ?_
    refine hK _ _ ?_
    rw [mGal, if_pos hg, h0, tB_o, h1, tB_o, h2, tB_o]
    exact G2
  have K23 : isW B L t wd_gallery → ∀ (iA : Ni) (jA : Nj), zG x b r L B N i0 j0 (sNext B L t) iA jA → ∀ q m : Nat, q = 210 - m → m ≤ 210 → zR E mX4_readGallery (zZ E mX4_readGallery K) X 23 [.ref x, .int (nI m)] [] g (wA iA r (ycp (fun _ => nI 0) (iA r) m)) jA 0 0 := by
    intro hg iA jA GA q
    induction q with
    | zero =>
      intro m hm hm2
      obtain rfl : m = 210 := by omega
      refine r_iload_n qX4_readGallery_23 rfl ?_
      refine r_sipush (v := nI 210) qX4_readGallery_24 (by decide) ?_
      refine r_icmp_ge (t := 43) qX4_readGallery_27 (by decide) (fun hc27 => ?_) (fun hc27 => absurd hc27 (fun h => h (nI_le (by omega) (by omega))))
      exact K43 hg iA jA GA
    | succ q ih =>
      intro m hm hm2
      refine r_iload_n qX4_readGallery_23 rfl ?_
      refine r_sipush (v := nI 210) qX4_readGallery_24 (by decide) ?_
      refine r_icmp_ge (t := 43) qX4_readGallery_27 (by decide) (fun hc27 => absurd hc27 (nI_ge (by omega) (by omega))) (fun hc27 => ?_)
      refine r_aload_n qX4_readGallery_30 rfl ?_
      refine r_getr qX4_readGallery_31 fX4_24 rfl (by assumption) (by first | assumption | rfl) ?_
      refine r_iload_n qX4_readGallery_34 rfl ?_
      refine r_iconst (v := nI 0) qX4_readGallery_35 (by decide) ?_
      refine r_iastN qX4_readGallery_36 (by assumption) (by assumption) (by omega) rfl ?_
      simp only [wA_s, wA_wA]; rw [ycp_s (f := fun _ => nI 0)]
      refine r_ii_2_1 qX4_readGallery_37 rfl rfl (nI_inc m) ?_
      refine r_goto (t := 23) qX4_readGallery_40 (by decide) ?_
      exact ih (m + 1) (by omega) (by omega)
  refine r_aload_n qX4_readGallery_0 rfl ?_
  refine r_aload_n qX4_readGallery_1 rfl ?_
  refine r_getl qX4_readGallery_2 fX4_37 rfl (by assumption) ?_
  rw [e14]
  refine r_cv1 (cu2 := 0) (su2 := 0) qX4_readGallery_5 kX4_293 rfl (by decide +kernel) (c := 4) (by assumption) (by decide) rfl rfl rfl rfl rfl rfl ?_
  refine w_isWord hW hG ?_
  show zR E _ _ X 8 _ _ _ _ _ _ _
  refine r_if_ne (t := 17) qX4_readGallery_8 (by decide) (fun hc8 => ?_) (fun hc8 => ?_)
  · refine r_aload_n qX4_readGallery_17 rfl ?_
    refine r_cv0 (cu2 := 0) (su2 := 0) qX4_readGallery_18 kX4_253 rfl (by decide +kernel) (c := 4) (by assumption) (by decide) rfl rfl rfl rfl rfl rfl ?_
    refine w_next hW hrx hG (fun iA jA GA => ?_)
    show zR E _ _ X 21 _ _ _ _ _ _ _
    refine r_iconst (v := nI 0) qX4_readGallery_21 (by decide) ?_
    refine r_is_2_1 qX4_readGallery_22 rfl rfl ?_
    have z := K23 (zb_ne.mp hc8) iA jA GA 210 0 (by omega) (by omega); rw [ycp_0, wA_id rfl] at z; exact z
  · refine r_aload_n qX4_readGallery_11 rfl ?_
    refine r_iconst (v := nI 1) qX4_readGallery_12 (by decide) ?_
    refine r_cv1 (cu2 := 0) (su2 := 0) qX4_readGallery_13 kX4_273 rfl (by decide +kernel) (c := 4) (by assumption) (by decide) rfl rfl rfl rfl rfl rfl ?_
    refine c_X4_fault w1 hG.z ?_; rw [z8]
    show zR E _ _ X 16 _ _ _ _ _ _ _
    refine r_vret qX4_readGallery_16 rfl rfl rfl ?_
    refine hK _ _ ?_
    rw [mGal, if_neg (zb_0.mp hc8)]
    exact hG.bad (by decide)
set_option maxHeartbeats 4000000 in
set_option maxRecDepth 20000 in
theorem c_X4_readStatement {E : Ev} {g : Sh} {i : Ni} {j : Nj} {K : Kp} {x n d b p s o r L t : Nat} {B N : Nat → Int32} {i0 : Ni} {j0 : Nj} (hW : zW g x n d b p s o) (hM : zM g x r) (hrx : r ≠ x) (hrb : r ≠ b) (hO : zOk N) (hWd : zWd (j0 x)) (hG : zG x b r L B N i0 j0 t i j) (hK : ∀ i' j', zRes x b r L B i0 j0 (mStat N B L t) i' j' → K (.inl none) g i' j') : zCon E mX4_readStatement [.ref x] g i j K := by
  refine zcon_of (by decide +kernel) rfl rfl (lo := [.ref x]) rfl (fun X => ?_)
  have w1 := hW.1
  obtain ⟨hM1, hM2, hM3, hM4⟩ := id hM
  obtain ⟨z8, z6, z7, z9, z11, z10⟩ := hG.tok
  obtain ⟨-, e15, e16, e17, e18, e19, e20, e21, e22, e23, e24, e25, e26, e27⟩ := id hWd
  refine r_aload_n qX4_readStatement_0 rfl ?_
  refine r_aload_n qX4_readStatement_1 rfl ?_
  refine r_getl qX4_readStatement_2 fX4_43 rfl (by assumption) ?_
  rw [show j x 15 = wd_spirit from (hG.j10 15 (by decide)).trans e15]
  refine r_cv1 (cu2 := 0) (su2 := 0) qX4_readStatement_5 kX4_293 rfl (by decide +kernel) (c := 4) (by assumption) (by decide) rfl rfl rfl rfl rfl rfl ?_
  refine w_isWord hW hG ?_
  show zR E _ _ X 8 _ _ _ _ _ _ _
  refine r_if_eq (t := 19) qX4_readStatement_8 (by decide) (fun hc8 => ?_) (fun hc8 => ?_)
  · refine r_aload_n qX4_readStatement_19 rfl ?_
    refine r_aload_n qX4_readStatement_20 rfl ?_
    refine r_getl qX4_readStatement_21 fX4_48 rfl (by assumption) ?_
    rw [show j x 16 = wd_bath from (hG.j10 16 (by decide)).trans e16]
    refine r_cv1 (cu2 := 0) (su2 := 0) qX4_readStatement_24 kX4_293 rfl (by decide +kernel) (c := 4) (by assumption) (by decide) rfl rfl rfl rfl rfl rfl ?_
    refine w_isWord hW hG ?_
    show zR E _ _ X 27 _ _ _ _ _ _ _
    refine r_if_eq (t := 38) qX4_readStatement_27 (by decide) (fun hc27 => ?_) (fun hc27 => ?_)
    · refine r_aload_n qX4_readStatement_38 rfl ?_
      refine r_aload_n qX4_readStatement_39 rfl ?_
      refine r_getl qX4_readStatement_40 fX4_53 rfl (by assumption) ?_
      rw [show j x 17 = wd_tube from (hG.j10 17 (by decide)).trans e17]
      refine r_cv1 (cu2 := 0) (su2 := 0) qX4_readStatement_43 kX4_293 rfl (by decide +kernel) (c := 4) (by assumption) (by decide) rfl rfl rfl rfl rfl rfl ?_
      refine w_isWord hW hG ?_
      show zR E _ _ X 46 _ _ _ _ _ _ _
      refine r_if_eq (t := 56) qX4_readStatement_46 (by decide) (fun hc46 => ?_) (fun hc46 => ?_)
      · refine r_aload_n qX4_readStatement_56 rfl ?_
        refine r_aload_n qX4_readStatement_57 rfl ?_
        refine r_getl qX4_readStatement_58 fX4_58 rfl (by assumption) ?_
        rw [show j x 18 = wd_leak from (hG.j10 18 (by decide)).trans e18]
        refine r_cv1 (cu2 := 0) (su2 := 0) qX4_readStatement_61 kX4_293 rfl (by decide +kernel) (c := 4) (by assumption) (by decide) rfl rfl rfl rfl rfl rfl ?_
        refine w_isWord hW hG ?_
        show zR E _ _ X 64 _ _ _ _ _ _ _
        refine r_if_eq (t := 75) qX4_readStatement_64 (by decide) (fun hc64 => ?_) (fun hc64 => ?_)
        · refine r_aload_n qX4_readStatement_75 rfl ?_
          refine r_aload_n qX4_readStatement_76 rfl ?_
          refine r_getl qX4_readStatement_77 fX4_83 rfl (by assumption) ?_
          rw [show j x 23 = wd_seal from (hG.j10 23 (by decide)).trans e23]
          refine r_cv1 (cu2 := 0) (su2 := 0) qX4_readStatement_80 kX4_293 rfl (by decide +kernel) (c := 4) (by assumption) (by decide) rfl rfl rfl rfl rfl rfl ?_
          refine w_isWord hW hG ?_
          show zR E _ _ X 83 _ _ _ _ _ _ _
          refine r_if_eq (t := 94) qX4_readStatement_83 (by decide) (fun hc83 => ?_) (fun hc83 => ?_)
          · refine r_aload_n qX4_readStatement_94 rfl ?_
            refine r_aload_n qX4_readStatement_95 rfl ?_
            refine r_getl qX4_readStatement_96 fX4_63 rfl (by assumption) ?_
            rw [show j x 19 = wd_dip from (hG.j10 19 (by decide)).trans e19]
            refine r_cv1 (cu2 := 0) (su2 := 0) qX4_readStatement_99 kX4_293 rfl (by decide +kernel) (c := 4) (by assumption) (by decide) rfl rfl rfl rfl rfl rfl ?_
            refine w_isWord hW hG ?_
            show zR E _ _ X 102 _ _ _ _ _ _ _
            refine r_if_eq (t := 112) qX4_readStatement_102 (by decide) (fun hc102 => ?_) (fun hc102 => ?_)
            · refine r_aload_n qX4_readStatement_112 rfl ?_
              refine r_aload_n qX4_readStatement_113 rfl ?_
              refine r_getl qX4_readStatement_114 fX4_68 rfl (by assumption) ?_
              rw [show j x 20 = wd_lift from (hG.j10 20 (by decide)).trans e20]
              refine r_cv1 (cu2 := 0) (su2 := 0) qX4_readStatement_117 kX4_293 rfl (by decide +kernel) (c := 4) (by assumption) (by decide) rfl rfl rfl rfl rfl rfl ?_
              refine w_isWord hW hG ?_
              show zR E _ _ X 120 _ _ _ _ _ _ _
              refine r_if_eq (t := 130) qX4_readStatement_120 (by decide) (fun hc120 => ?_) (fun hc120 => ?_)
              · refine r_aload_n qX4_readStatement_130 rfl ?_
                refine r_aload_n qX4_readStatement_131 rfl ?_
                refine r_getl qX4_readStatement_132 fX4_73 rfl (by assumption) ?_
                rw [show j x 21 = wd_mark from (hG.j10 21 (by decide)).trans e21]
                refine r_cv1 (cu2 := 0) (su2 := 0) qX4_readStatement_135 kX4_293 rfl (by decide +kernel) (c := 4) (by assumption) (by decide) rfl rfl rfl rfl rfl rfl ?_
                refine w_isWord hW hG ?_
                show zR E _ _ X 138 _ _ _ _ _ _ _
                refine r_if_eq (t := 148) qX4_readStatement_138 (by decide) (fun hc138 => ?_) (fun hc138 => ?_)
                · refine r_aload_n qX4_readStatement_148 rfl ?_
                  refine r_aload_n qX4_readStatement_149 rfl ?_
                  refine r_getl qX4_readStatement_150 fX4_78 rfl (by assumption) ?_
                  rw [show j x 22 = wd_thumb from (hG.j10 22 (by decide)).trans e22]
                  refine r_cv1 (cu2 := 0) (su2 := 0) qX4_readStatement_153 kX4_293 rfl (by decide +kernel) (c := 4) (by assumption) (by decide) rfl rfl rfl rfl rfl rfl ?_
                  refine w_isWord hW hG ?_
                  show zR E _ _ X 156 _ _ _ _ _ _ _
                  refine r_if_eq (t := 166) qX4_readStatement_156 (by decide) (fun hc156 => ?_) (fun hc156 => ?_)
                  · refine r_aload_n qX4_readStatement_166 rfl ?_
                    refine r_aload_n qX4_readStatement_167 rfl ?_
                    refine r_getl qX4_readStatement_168 fX4_88 rfl (by assumption) ?_
                    rw [show j x 24 = wd_fill from (hG.j10 24 (by decide)).trans e24]
                    refine r_cv1 (cu2 := 0) (su2 := 0) qX4_readStatement_171 kX4_293 rfl (by decide +kernel) (c := 4) (by assumption) (by decide) rfl rfl rfl rfl rfl rfl ?_
                    refine w_isWord hW hG ?_
                    show zR E _ _ X 174 _ _ _ _ _ _ _
                    refine r_if_eq (t := 184) qX4_readStatement_174 (by decide) (fun hc174 => ?_) (fun hc174 => ?_)
                    · refine r_aload_n qX4_readStatement_184 rfl ?_
                      refine r_aload_n qX4_readStatement_185 rfl ?_
                      refine r_getl qX4_readStatement_186 fX4_93 rfl (by assumption) ?_
                      rw [show j x 25 = wd_erase from (hG.j10 25 (by decide)).trans e25]
                      refine r_cv1 (cu2 := 0) (su2 := 0) qX4_readStatement_189 kX4_293 rfl (by decide +kernel) (c := 4) (by assumption) (by decide) rfl rfl rfl rfl rfl rfl ?_
                      refine w_isWord hW hG ?_
                      show zR E _ _ X 192 _ _ _ _ _ _ _
                      refine r_if_eq (t := 202) qX4_readStatement_192 (by decide) (fun hc192 => ?_) (fun hc192 => ?_)
                      · refine r_aload_n qX4_readStatement_202 rfl ?_
                        refine r_aload_n qX4_readStatement_203 rfl ?_
                        refine r_getl qX4_readStatement_204 fX4_98 rfl (by assumption) ?_
                        rw [show j x 26 = wd_room from (hG.j10 26 (by decide)).trans e26]
                        refine r_cv1 (cu2 := 0) (su2 := 0) qX4_readStatement_207 kX4_293 rfl (by decide +kernel) (c := 4) (by assumption) (by decide) rfl rfl rfl rfl rfl rfl ?_
                        refine w_isWord hW hG ?_
                        show zR E _ _ X 210 _ _ _ _ _ _ _
                        refine r_if_eq (t := 220) qX4_readStatement_210 (by decide) (fun hc210 => ?_) (fun hc210 => ?_)
                        · refine r_aload_n qX4_readStatement_220 rfl ?_
                          refine r_aload_n qX4_readStatement_221 rfl ?_
                          refine r_getl qX4_readStatement_222 fX4_103 rfl (by assumption) ?_
                          rw [show j x 27 = wd_pass from (hG.j10 27 (by decide)).trans e27]
                          refine r_cv1 (cu2 := 0) (su2 := 0) qX4_readStatement_225 kX4_293 rfl (by decide +kernel) (c := 4) (by assumption) (by decide) rfl rfl rfl rfl rfl rfl ?_
                          refine w_isWord hW hG ?_
                          show zR E _ _ X 228 _ _ _ _ _ _ _
                          refine r_if_eq (t := 238) qX4_readStatement_228 (by decide) (fun hc228 => ?_) (fun hc228 => ?_)
                          · refine r_aload_n qX4_readStatement_238 rfl ?_
                            refine r_iconst (v := nI 1) qX4_readStatement_239 (by decide) ?_
                            refine r_cv1 (cu2 := 0) (su2 := 0) qX4_readStatement_240 kX4_273 rfl (by decide +kernel) (c := 4) (by assumption) (by decide) rfl rfl rfl rfl rfl rfl ?_
                            refine c_X4_fault w1 hG.z ?_
                            rw [z8]
                            have z : zRes x b r L B i0 j0 (mStat N B L t) (zBad i x (nI 1) (nI t)) j := by
                              rw [mStat, if_neg (zb_0.mp hc8), if_neg (zb_0.mp hc27), if_neg (zb_0.mp hc46), if_neg (zb_0.mp hc64), if_neg (zb_0.mp hc83), if_neg (zb_0.mp hc102), if_neg (zb_0.mp hc120), if_neg (zb_0.mp hc138), if_neg (zb_0.mp hc156), if_neg (zb_0.mp hc174), if_neg (zb_0.mp hc192), if_neg (zb_0.mp hc210), if_neg (zb_0.mp hc228)]
                              exact hG.bad (by decide)
                            show zR E _ _ X 243 _ _ _ _ _ _ _
                            refine r_vret qX4_readStatement_243 rfl rfl rfl ?_
                            exact hK _ _ z
                          · refine r_aload_n qX4_readStatement_231 rfl ?_
                            refine r_cv0 (cu2 := 0) (su2 := 0) qX4_readStatement_232 kX4_356 rfl (by decide +kernel) (c := 4) (by assumption) (by decide) rfl rfl rfl rfl rfl rfl ?_
                            refine c_X4_readPass hW hM hrx hrb hO hG (fun i2 j2 z => ?_)
                            rw [show mPass N B L t = mStat N B L t by rw [mStat, if_neg (zb_0.mp hc8), if_neg (zb_0.mp hc27), if_neg (zb_0.mp hc46), if_neg (zb_0.mp hc64), if_neg (zb_0.mp hc83), if_neg (zb_0.mp hc102), if_neg (zb_0.mp hc120), if_neg (zb_0.mp hc138), if_neg (zb_0.mp hc156), if_neg (zb_0.mp hc174), if_neg (zb_0.mp hc192), if_neg (zb_0.mp hc210), if_pos (zb_ne.mp hc228)]] at z
                            show zR E _ _ X 235 _ _ _ _ _ _ _
                            refine r_goto (t := 243) qX4_readStatement_235 (by decide) ?_
                            refine r_vret qX4_readStatement_243 rfl rfl rfl ?_
                            exact hK _ _ z
                        · refine r_aload_n qX4_readStatement_213 rfl ?_
                          refine r_cv0 (cu2 := 0) (su2 := 0) qX4_readStatement_214 kX4_353 rfl (by decide +kernel) (c := 4) (by assumption) (by decide) rfl rfl rfl rfl rfl rfl ?_
                          refine c_X4_readRoom hW hM hrx hrb hO hG (fun i2 j2 z => ?_)
                          rw [show mRoom N B L t = mStat N B L t by rw [mStat, if_neg (zb_0.mp hc8), if_neg (zb_0.mp hc27), if_neg (zb_0.mp hc46), if_neg (zb_0.mp hc64), if_neg (zb_0.mp hc83), if_neg (zb_0.mp hc102), if_neg (zb_0.mp hc120), if_neg (zb_0.mp hc138), if_neg (zb_0.mp hc156), if_neg (zb_0.mp hc174), if_neg (zb_0.mp hc192), if_pos (zb_ne.mp hc210)]] at z
                          show zR E _ _ X 217 _ _ _ _ _ _ _
                          refine r_goto (t := 243) qX4_readStatement_217 (by decide) ?_
                          refine r_vret qX4_readStatement_243 rfl rfl rfl ?_
                          exact hK _ _ z
                      · refine r_aload_n qX4_readStatement_195 rfl ?_
                        refine r_cv0 (cu2 := 0) (su2 := 0) qX4_readStatement_196 kX4_350 rfl (by decide +kernel) (c := 4) (by assumption) (by decide) rfl rfl rfl rfl rfl rfl ?_
                        refine c_X4_readErase hW hM hrx hrb hO hG (fun i2 j2 z => ?_)
                        rw [show mErase N B L t = mStat N B L t by rw [mStat, if_neg (zb_0.mp hc8), if_neg (zb_0.mp hc27), if_neg (zb_0.mp hc46), if_neg (zb_0.mp hc64), if_neg (zb_0.mp hc83), if_neg (zb_0.mp hc102), if_neg (zb_0.mp hc120), if_neg (zb_0.mp hc138), if_neg (zb_0.mp hc156), if_neg (zb_0.mp hc174), if_pos (zb_ne.mp hc192)]] at z
                        show zR E _ _ X 199 _ _ _ _ _ _ _
                        refine r_goto (t := 243) qX4_readStatement_199 (by decide) ?_
                        refine r_vret qX4_readStatement_243 rfl rfl rfl ?_
                        exact hK _ _ z
                    · refine r_aload_n qX4_readStatement_177 rfl ?_
                      refine r_cv0 (cu2 := 0) (su2 := 0) qX4_readStatement_178 kX4_347 rfl (by decide +kernel) (c := 4) (by assumption) (by decide) rfl rfl rfl rfl rfl rfl ?_
                      refine c_X4_readFill hW hM hrx hrb hO hG (fun i2 j2 z => ?_)
                      rw [show mFill N B L t = mStat N B L t by rw [mStat, if_neg (zb_0.mp hc8), if_neg (zb_0.mp hc27), if_neg (zb_0.mp hc46), if_neg (zb_0.mp hc64), if_neg (zb_0.mp hc83), if_neg (zb_0.mp hc102), if_neg (zb_0.mp hc120), if_neg (zb_0.mp hc138), if_neg (zb_0.mp hc156), if_pos (zb_ne.mp hc174)]] at z
                      show zR E _ _ X 181 _ _ _ _ _ _ _
                      refine r_goto (t := 243) qX4_readStatement_181 (by decide) ?_
                      refine r_vret qX4_readStatement_243 rfl rfl rfl ?_
                      exact hK _ _ z
                  · refine r_aload_n qX4_readStatement_159 rfl ?_
                    refine r_cv0 (cu2 := 0) (su2 := 0) qX4_readStatement_160 kX4_344 rfl (by decide +kernel) (c := 4) (by assumption) (by decide) rfl rfl rfl rfl rfl rfl ?_
                    refine c_X4_readThumb hW hM hrx hrb hO hG (fun i2 j2 z => ?_)
                    rw [show mThumb N B L t = mStat N B L t by rw [mStat, if_neg (zb_0.mp hc8), if_neg (zb_0.mp hc27), if_neg (zb_0.mp hc46), if_neg (zb_0.mp hc64), if_neg (zb_0.mp hc83), if_neg (zb_0.mp hc102), if_neg (zb_0.mp hc120), if_neg (zb_0.mp hc138), if_pos (zb_ne.mp hc156)]] at z
                    show zR E _ _ X 163 _ _ _ _ _ _ _
                    refine r_goto (t := 243) qX4_readStatement_163 (by decide) ?_
                    refine r_vret qX4_readStatement_243 rfl rfl rfl ?_
                    exact hK _ _ z
                · refine r_aload_n qX4_readStatement_141 rfl ?_
                  refine r_cv0 (cu2 := 0) (su2 := 0) qX4_readStatement_142 kX4_341 rfl (by decide +kernel) (c := 4) (by assumption) (by decide) rfl rfl rfl rfl rfl rfl ?_
                  refine c_X4_readMark hW hM hrx hrb hO hG (fun i2 j2 z => ?_)
                  rw [show mMark N B L t = mStat N B L t by rw [mStat, if_neg (zb_0.mp hc8), if_neg (zb_0.mp hc27), if_neg (zb_0.mp hc46), if_neg (zb_0.mp hc64), if_neg (zb_0.mp hc83), if_neg (zb_0.mp hc102), if_neg (zb_0.mp hc120), if_pos (zb_ne.mp hc138)]] at z
                  show zR E _ _ X 145 _ _ _ _ _ _ _
                  refine r_goto (t := 243) qX4_readStatement_145 (by decide) ?_
                  refine r_vret qX4_readStatement_243 rfl rfl rfl ?_
                  exact hK _ _ z
              · refine r_aload_n qX4_readStatement_123 rfl ?_
                refine r_cv0 (cu2 := 0) (su2 := 0) qX4_readStatement_124 kX4_338 rfl (by decide +kernel) (c := 4) (by assumption) (by decide) rfl rfl rfl rfl rfl rfl ?_
                refine c_X4_readLift hW hM hrx hrb hO hG (fun i2 j2 z => ?_)
                rw [show mLift N B L t = mStat N B L t by rw [mStat, if_neg (zb_0.mp hc8), if_neg (zb_0.mp hc27), if_neg (zb_0.mp hc46), if_neg (zb_0.mp hc64), if_neg (zb_0.mp hc83), if_neg (zb_0.mp hc102), if_pos (zb_ne.mp hc120)]] at z
                show zR E _ _ X 127 _ _ _ _ _ _ _
                refine r_goto (t := 243) qX4_readStatement_127 (by decide) ?_
                refine r_vret qX4_readStatement_243 rfl rfl rfl ?_
                exact hK _ _ z
            · refine r_aload_n qX4_readStatement_105 rfl ?_
              refine r_cv0 (cu2 := 0) (su2 := 0) qX4_readStatement_106 kX4_335 rfl (by decide +kernel) (c := 4) (by assumption) (by decide) rfl rfl rfl rfl rfl rfl ?_
              refine c_X4_readDip hW hM hrx hrb hO hG (fun i2 j2 z => ?_)
              rw [show mDip N B L t = mStat N B L t by rw [mStat, if_neg (zb_0.mp hc8), if_neg (zb_0.mp hc27), if_neg (zb_0.mp hc46), if_neg (zb_0.mp hc64), if_neg (zb_0.mp hc83), if_pos (zb_ne.mp hc102)]] at z
              show zR E _ _ X 109 _ _ _ _ _ _ _
              refine r_goto (t := 243) qX4_readStatement_109 (by decide) ?_
              refine r_vret qX4_readStatement_243 rfl rfl rfl ?_
              exact hK _ _ z
          · refine r_aload_n qX4_readStatement_86 rfl ?_
            refine r_iconst (v := nI 0) qX4_readStatement_87 (by decide) ?_
            refine r_cv1 (cu2 := 0) (su2 := 0) qX4_readStatement_88 kX4_332 rfl (by decide +kernel) (c := 4) (by assumption) (by decide) rfl rfl rfl rfl rfl rfl ?_
            refine c_X4_readLeaky hW hM hrx hrb hO hG (fun i2 j2 z => ?_)
            rw [show mLeaky (nI 0) N B L t = mStat N B L t by rw [mStat, if_neg (zb_0.mp hc8), if_neg (zb_0.mp hc27), if_neg (zb_0.mp hc46), if_neg (zb_0.mp hc64), if_pos (zb_ne.mp hc83)]] at z
            show zR E _ _ X 91 _ _ _ _ _ _ _
            refine r_goto (t := 243) qX4_readStatement_91 (by decide) ?_
            refine r_vret qX4_readStatement_243 rfl rfl rfl ?_
            exact hK _ _ z
        · refine r_aload_n qX4_readStatement_67 rfl ?_
          refine r_iconst (v := nI 1) qX4_readStatement_68 (by decide) ?_
          refine r_cv1 (cu2 := 0) (su2 := 0) qX4_readStatement_69 kX4_332 rfl (by decide +kernel) (c := 4) (by assumption) (by decide) rfl rfl rfl rfl rfl rfl ?_
          refine c_X4_readLeaky hW hM hrx hrb hO hG (fun i2 j2 z => ?_)
          rw [show mLeaky (nI 1) N B L t = mStat N B L t by rw [mStat, if_neg (zb_0.mp hc8), if_neg (zb_0.mp hc27), if_neg (zb_0.mp hc46), if_pos (zb_ne.mp hc64)]] at z
          show zR E _ _ X 72 _ _ _ _ _ _ _
          refine r_goto (t := 243) qX4_readStatement_72 (by decide) ?_
          refine r_vret qX4_readStatement_243 rfl rfl rfl ?_
          exact hK _ _ z
      · refine r_aload_n qX4_readStatement_49 rfl ?_
        refine r_cv0 (cu2 := 0) (su2 := 0) qX4_readStatement_50 kX4_329 rfl (by decide +kernel) (c := 4) (by assumption) (by decide) rfl rfl rfl rfl rfl rfl ?_
        refine c_X4_readTube hW hM hrx hrb hO hG (fun i2 j2 z => ?_)
        rw [show mTube N B L t = mStat N B L t by rw [mStat, if_neg (zb_0.mp hc8), if_neg (zb_0.mp hc27), if_pos (zb_ne.mp hc46)]] at z
        show zR E _ _ X 53 _ _ _ _ _ _ _
        refine r_goto (t := 243) qX4_readStatement_53 (by decide) ?_
        refine r_vret qX4_readStatement_243 rfl rfl rfl ?_
        exact hK _ _ z
    · refine r_aload_n qX4_readStatement_30 rfl ?_
      refine r_iconst (v := nI 0) qX4_readStatement_31 (by decide) ?_
      refine r_cv1 (cu2 := 0) (su2 := 0) qX4_readStatement_32 kX4_326 rfl (by decide +kernel) (c := 4) (by assumption) (by decide) rfl rfl rfl rfl rfl rfl ?_
      refine c_readBath hW hM hrx hrb hO hG (fun i2 j2 z => ?_)
      rw [show mBath N B L t = mStat N B L t by rw [mStat, if_neg (zb_0.mp hc8), if_pos (zb_ne.mp hc27)]] at z
      show zR E _ _ X 35 _ _ _ _ _ _ _
      refine r_goto (t := 243) qX4_readStatement_35 (by decide) ?_
      refine r_vret qX4_readStatement_243 rfl rfl rfl ?_
      exact hK _ _ z
  · refine r_aload_n qX4_readStatement_11 rfl ?_
    refine r_iconst (v := nI 1) qX4_readStatement_12 (by decide) ?_
    refine r_cv1 (cu2 := 0) (su2 := 0) qX4_readStatement_13 kX4_326 rfl (by decide +kernel) (c := 4) (by assumption) (by decide) rfl rfl rfl rfl rfl rfl ?_
    refine c_readSpirit hW hM hrx hrb hO hG (fun i2 j2 z => ?_)
    rw [show mSpirit N B L t = mStat N B L t by rw [mStat, if_pos (zb_ne.mp hc8)]] at z
    show zR E _ _ X 16 _ _ _ _ _ _ _
    refine r_goto (t := 243) qX4_readStatement_16 (by decide) ?_
    refine r_vret qX4_readStatement_243 rfl rfl rfl ?_
    exact hK _ _ z
set_option maxHeartbeats 4000000 in
set_option maxRecDepth 20000 in
theorem c_X4_readText {E : Ev} {g : Sh} {i : Ni} {j : Nj} {K : Kp} {x n d b p s o r L : Nat} {B : Nat → Int32} (hW : zW g x n d b p s o) (hM : zM g x r) (hrx : r ≠ x) (hrb : r ≠ b) (hWd : zWd (j x)) (hL : i x 5 = nI L) (hL6 : L ≤ 600) (hb : i b = B) (hBy : zByt B) (hK : ∀ i' j', zRes x b r L B i j (mText B L) i' j' → K (.inl none) g i' j') : zCon E mX4_readText [.ref x] g i j K := by
  refine zcon_of (by decide +kernel) rfl rfl (lo := [.ref x]) rfl (fun X => ?_)
  have w1 := hW.1
  have Kb8 : ∀ (i1 : Ni) (j1 : Nj) (c : Int32) (w : Nat), zE x r i j c w i1 j1 → mText B L = .error (c, w) → zR E mX4_readText (zZ E mX4_readText K) X 8 [.ref x] [] g i1 j1 0 0 := by
    intro i1 j1 c w e he
    have h0 := e.b
    refine r_aload_n qX4_readText_8 rfl ?_
    refine r_cv0 (cu2 := 0) (su2 := 0) qX4_readText_9 kX4_269 rfl (by decide +kernel) (c := 4) (by assumption) (by decide) rfl rfl rfl rfl rfl rfl ?_
    refine c_X4_isGood (by first | assumption | omega | rfl | decide) ?_
    show zR E _ _ X 12 _ _ _ _ _ _ _
    rw [zb_f (p := i1 x 12 = 0) h0]
    refine r_if_eq (t := 29) qX4_readText_12 (by decide) (fun hc12 => ?_) (fun hc12 => absurd hc12 (by decide))
    refine r_vret qX4_readText_29 rfl rfl rfl ?_
    refine hK _ _ ?_; rw [he]; exact e
  have K8 : ∀ (f : Nat) (N : Nat → Int32) (t : Nat) (i1 : Ni) (j1 : Nj), L - t ≤ f → zOk N → zZr N → zG x b r L B N i j t i1 j1 → mText B L = mLoop B L f N t → zR E mX4_readText (zZ E mX4_readText K) X 8 [.ref x] [] g i1 j1 0 0 := by
    intro f
    induction f with
    | zero =>
      intro N t i1 j1 hf hO hZ hG e
      obtain ⟨z8, z6, z7, z9, z11, z10⟩ := hG.tok
      rw [sKind_0 (by omega)] at z7
      refine r_aload_n qX4_readText_8 rfl ?_
      refine r_cv0 (cu2 := 0) (su2 := 0) qX4_readText_9 kX4_269 rfl (by decide +kernel) (c := 4) (by assumption) (by decide) rfl rfl rfl rfl rfl rfl ?_
      refine c_X4_isGood (by first | assumption | omega | rfl | decide) ?_
      show zR E _ _ X 12 _ _ _ _ _ _ _
      rw [zb_t (p := i1 x 12 = 0) hG.z]
      refine r_if_eq (t := 29) qX4_readText_12 (by decide) (fun hc12 => absurd hc12 (by decide)) (fun hc12 => ?_)
      refine r_aload_n qX4_readText_15 rfl ?_
      refine r_geti qX4_readText_16 fX4_235 rfl (by assumption) ?_
      rw [z7]
      refine r_if_eq (t := 29) qX4_readText_19 (by decide) (fun hc19 => ?_) (fun hc19 => absurd hc19 (by decide))
      refine r_vret qX4_readText_29 rfl rfl rfl ?_
      refine hK _ _ ?_
      rw [e, mLoop]
      exact hG
    | succ f ih =>
      intro N t i1 j1 hf hO hZ hG e
      obtain ⟨z8, z6, z7, z9, z11, z10⟩ := hG.tok
      have hk4 := sKind_lt B L t
      by_cases hk : sKind B L t = 0
      · skip
        rw [hk] at z7
        refine r_aload_n qX4_readText_8 rfl ?_
        refine r_cv0 (cu2 := 0) (su2 := 0) qX4_readText_9 kX4_269 rfl (by decide +kernel) (c := 4) (by assumption) (by decide) rfl rfl rfl rfl rfl rfl ?_
        refine c_X4_isGood (by first | assumption | omega | rfl | decide) ?_
        show zR E _ _ X 12 _ _ _ _ _ _ _
        rw [zb_t (p := i1 x 12 = 0) hG.z]
        refine r_if_eq (t := 29) qX4_readText_12 (by decide) (fun hc12 => absurd hc12 (by decide)) (fun hc12 => ?_)
        refine r_aload_n qX4_readText_15 rfl ?_
        refine r_geti qX4_readText_16 fX4_235 rfl (by assumption) ?_
        rw [z7]
        refine r_if_eq (t := 29) qX4_readText_19 (by decide) (fun hc19 => ?_) (fun hc19 => absurd hc19 (by decide))
        refine r_vret qX4_readText_29 rfl rfl rfl ?_
        refine hK _ _ ?_
        rw [e, mLoop, if_pos hk]
        exact hG
      · skip
        have hn : ¬ nI (sKind B L t) = 0 := fun h => hk ((nI_eq (by omega) (by decide)).mp (h.trans nI_0.symm))
        have ht : t < L := by
          rcases Nat.lt_or_ge t L with h1 | h1
          · exact h1
          · exact absurd (sKind_0 h1) hk
        refine r_aload_n qX4_readText_8 rfl ?_
        refine r_cv0 (cu2 := 0) (su2 := 0) qX4_readText_9 kX4_269 rfl (by decide +kernel) (c := 4) (by assumption) (by decide) rfl rfl rfl rfl rfl rfl ?_
        refine c_X4_isGood (by first | assumption | omega | rfl | decide) ?_
        show zR E _ _ X 12 _ _ _ _ _ _ _
        rw [zb_t (p := i1 x 12 = 0) hG.z]
        refine r_if_eq (t := 29) qX4_readText_12 (by decide) (fun hc12 => absurd hc12 (by decide)) (fun hc12 => ?_)
        refine r_aload_n qX4_readText_15 rfl ?_
        refine r_geti qX4_readText_16 fX4_235 rfl (by assumption) ?_
        rw [z7]
        refine r_if_eq (t := 29) qX4_readText_19 (by decide) (fun hc19 => absurd hc19 (hn)) (fun hc19 => ?_)
        refine r_aload_n qX4_readText_22 rfl ?_
        refine r_cv0 (cu2 := 0) (su2 := 0) qX4_readText_23 kX4_365 rfl (by decide +kernel) (c := 4) (by assumption) (by decide) rfl rfl rfl rfl rfl rfl ?_
        refine c_X4_readStatement hW hM hrx hrb hO hWd hG (fun i2 j2 z => ?_)
        show zR E _ _ X 26 _ _ _ _ _ _ _
        refine r_goto (t := 8) qX4_readText_26 (by decide) ?_
        cases hs : mStat N B L t with
        | error p =>
          obtain ⟨c, w⟩ := p
          rw [hs] at z
          exact Kb8 i2 j2 c w z (by rw [e, mLoop, if_neg hk, hs]; rfl)
        | ok p =>
          obtain ⟨t2, N2⟩ := p
          rw [hs] at z
          obtain ⟨o1, o2, o3⟩ := mStat_ok hO hZ ht hs
          exact ih N2 t2 i2 j2 (by omega) o1 o2 z (by rw [e, mLoop, if_neg hk, hs]; rfl)
  refine r_aload_n qX4_readText_0 rfl ?_
  refine r_cv0 (cu2 := 0) (su2 := 0) qX4_readText_1 kX4_359 rfl (by decide +kernel) (c := 4) (by assumption) (by decide) rfl rfl rfl rfl rfl rfl ?_
  refine c_X4_startText hW hL hL6 (by rw [hb]; exact hBy) (fun i2 j2 a1 a2 a3 a4 a5 a6 => ?_)
  rw [hb] at a1
  have hG : zG x b r L B (i2 r) i j (sSkip B L L 0) i2 j2 := ⟨⟨(a3 5 (by decide) (by decide) (by decide) (by decide) (by decide) (by decide)).trans hL, hL6, by rw [a4 b hW.bb.1, hb]; exact hBy, sSkip_le _ _ _ _ (by omega), by rw [a4 b hW.bb.1, hb]; exact a1⟩, (a4 b hW.bb.1).trans hb, rfl, a2, fun m b1 b2 b3 b4 b5 b6 b7 => a3 m b1 b2 b3 b4 b5 b6, fun q q1 q2 => a4 q q1, a5, a6⟩
  show zR E _ _ X 4 _ _ _ _ _ _ _
  refine r_aload_n qX4_readText_4 rfl ?_
  refine r_cv0 (cu2 := 0) (su2 := 0) qX4_readText_5 kX4_362 rfl (by decide +kernel) (c := 4) (by assumption) (by decide) rfl rfl rfl rfl rfl rfl ?_
  refine c_X4_readGallery hW hM hrx hrb hWd hG (fun i3 j3 z => ?_)
  show zR E _ _ X 8 _ _ _ _ _ _ _
  cases hs : mGal B L (sSkip B L L 0) with
  | error p =>
    obtain ⟨c, w⟩ := p
    rw [hs] at z
    exact Kb8 i3 j3 c w z (by rw [mText, hs]; rfl)
  | ok p =>
    obtain ⟨t2, N2⟩ := p
    rw [hs] at z
    obtain ⟨o1, o2⟩ := mGal_ok hs
    exact K8 L N2 t2 i3 j3 (by omega) o1 o2 z (by rw [mText, hs]; rfl)

