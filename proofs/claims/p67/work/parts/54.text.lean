/-! ===== THE MODEL READS A TEXT ===== -/
def wd_gallery : Int64 := 2732909974
def wd_spirit : Int64 := 281322821
def wd_bath : Int64 := 40643
def wd_tube : Int64 := 409028
def wd_leak : Int64 := 239879
def wd_dip : Int64 := 3175
def wd_lift : Int64 := 242939
def wd_mark : Int64 := 257105
def wd_thumb : Int64 := 10801946
def wd_seal : Int64 := 377661
def wd_fill : Int64 := 124995
def wd_erase : Int64 := 3012746
def wd_room : Int64 := 365647
def wd_pass : Int64 := 316189
def zWd (h : Nat → Int64) : Prop := h 14 = wd_gallery ∧ h 15 = wd_spirit ∧ h 16 = wd_bath ∧ h 17 = wd_tube ∧ h 18 = wd_leak ∧ h 19 = wd_dip ∧ h 20 = wd_lift ∧ h 21 = wd_mark ∧ h 22 = wd_thumb ∧ h 23 = wd_seal ∧ h 24 = wd_fill ∧ h 25 = wd_erase ∧ h 26 = wd_room ∧ h 27 = wd_pass
def mStat (N B : Nat → Int32) (L t : Nat) : PE (Nat → Int32) := if isW B L t wd_spirit then mSpirit N B L t else if isW B L t wd_bath then mBath N B L t else if isW B L t wd_tube then mTube N B L t else if isW B L t wd_leak then mLeaky (nI 1) N B L t else if isW B L t wd_seal then mLeaky (nI 0) N B L t else if isW B L t wd_dip then mDip N B L t else if isW B L t wd_lift then mLift N B L t else if isW B L t wd_mark then mMark N B L t else if isW B L t wd_thumb then mThumb N B L t else if isW B L t wd_fill then mFill N B L t else if isW B L t wd_erase then mErase N B L t else if isW B L t wd_room then mRoom N B L t else if isW B L t wd_pass then mPass N B L t else .error (nI 1, t)
def mLoop (B : Nat → Int32) (L : Nat) : Nat → (Nat → Int32) → Nat → PE (Nat → Int32)
  | 0, N, t => .ok (t, N)
  | f + 1, N, t => if sKind B L t = 0 then .ok (t, N) else tB (mStat N B L t) fun t N => mLoop B L f N t
def aGal (v l : Int32) : Nat → Int32 := upd (upd (upd (fun _ => nI 0) 6 (-1)) 0 v) 1 l
def mGal (B : Nat → Int32) (L t : Nat) : PE (Nat → Int32) := if isW B L t wd_gallery then tB (tDeg B L (sNext B L t)) fun t v => tB (tNum B L (nI 1) (nI 20) t) fun t l => tB (tEnd B L False t) fun t _ => .ok (t, aGal v l) else .error (nI 1, t)
def mText (B : Nat → Int32) (L : Nat) : PE (Nat → Int32) := tB (mGal B L (sSkip B L L 0)) fun t N => mLoop B L L N t
theorem mStat_ok {N N' B : Nat → Int32} {L t t' : Nat} (h : zOk N) (hz : zZr N) (ht : t < L) (e : mStat N B L t = .ok (t', N')) : zKp2 N' t t' := by
  rw [mStat] at e
  by_cases q : isW B L t wd_spirit
  · rw [if_pos q] at e; exact mSpirit_ok h hz ht e
  rw [if_neg q] at e
  clear q
  by_cases q : isW B L t wd_bath
  · rw [if_pos q] at e; exact mBath_ok h hz ht e
  rw [if_neg q] at e
  clear q
  by_cases q : isW B L t wd_tube
  · rw [if_pos q] at e; exact mTube_ok h hz ht e
  rw [if_neg q] at e
  clear q
  by_cases q : isW B L t wd_leak
  · rw [if_pos q] at e; exact mLeaky_ok (Or.inr rfl) h hz ht e
  rw [if_neg q] at e
  clear q
  by_cases q : isW B L t wd_seal
  · rw [if_pos q] at e; exact mLeaky_ok (Or.inl rfl) h hz ht e
  rw [if_neg q] at e
  clear q
  by_cases q : isW B L t wd_dip
  · rw [if_pos q] at e; exact mDip_ok h hz ht e
  rw [if_neg q] at e
  clear q
  by_cases q : isW B L t wd_lift
  · rw [if_pos q] at e; exact mLift_ok h hz ht e
  rw [if_neg q] at e
  clear q
  by_cases q : isW B L t wd_mark
  · rw [if_pos q] at e; exact mMark_ok h hz ht e
  rw [if_neg q] at e
  clear q
  by_cases q : isW B L t wd_thumb
  · rw [if_pos q] at e; exact mThumb_ok h hz ht e
  rw [if_neg q] at e
  clear q
  by_cases q : isW B L t wd_fill
  · rw [if_pos q] at e; exact mFill_ok h hz ht e
  rw [if_neg q] at e
  clear q
  by_cases q : isW B L t wd_erase
  · rw [if_pos q] at e; exact mErase_ok h hz ht e
  rw [if_neg q] at e
  clear q
  by_cases q : isW B L t wd_room
  · rw [if_pos q] at e; exact mRoom_ok h hz ht e
  rw [if_neg q] at e
  clear q
  by_cases q : isW B L t wd_pass
  · rw [if_pos q] at e; exact mPass_ok h hz ht e
  rw [if_neg q] at e
  clear q
  cases e
theorem aGal_ok {v l : Int32} (hv : zIn v (-20) 150) (hl : zIn l 1 20) : zOk (aGal v l) ∧ zZr (aGal v l) := by
  have e : ∀ w, w ≠ 0 → w ≠ 1 → w ≠ 6 → aGal v l w = nI 0 := fun w a b c => by rw [aGal, pk_un b, pk_un a, pk_un c]
  have e6 : aGal v l 6 = -1 := by rw [aGal, pk_un (by omega), pk_un (by omega), pk_us]
  have e1 : aGal v l 1 = l := by rw [aGal, pk_us]
  have e0 : aGal v l 0 = v := by rw [aGal, pk_un (by omega), pk_us]
  refine ⟨⟨⟨0, e 3 (by omega) (by omega) (by omega), by omega⟩, ⟨0, e 4 (by omega) (by omega) (by omega), by omega⟩, ⟨0, e 5 (by omega) (by omega) (by omega), by omega⟩, by rw [e1]; exact hl, by rw [e0]; exact hv, Or.inl e6, ?_, ?_, ?_⟩, ?_, ?_⟩
  · intro s hs
    rw [e 3 (by omega) (by omega) (by omega), zn0] at hs
    omega
  · intro s hs
    rw [e 4 (by omega) (by omega) (by omega), zn0] at hs
    omega
  · intro s hs
    rw [e 5 (by omega) (by omega) (by omega), zn0] at hs
    omega
  · intro k _ _
    exact ⟨e _ (by omega) (by omega) (by omega), e _ (by omega) (by omega) (by omega)⟩
  · intro s _ _
    exact e _ (by omega) (by omega) (by omega)
theorem mGal_ok {N B : Nat → Int32} {L t t' : Nat} (e : mGal B L t = .ok (t', N)) : zOk N ∧ zZr N := by
  rw [mGal] at e
  split at e
  · obtain ⟨t1, a1, e1, e⟩ := tB_inv e
    obtain ⟨t2, a2, e2, e⟩ := tB_inv e
    obtain ⟨t3, a3, e3, e⟩ := tB_inv e
    injection e with e; injection e with e4 e5
    subst e5
    exact aGal_ok (tDeg_in e1).1 (tNum_zin e2 (by decide) (by decide))
  · cases e
theorem sKind_0 {B : Nat → Int32} {L t : Nat} (h : L ≤ t) : sKind B L t = 0 := by rw [sKind, if_pos h]
theorem mLoop_ok {B : Nat → Int32} {L : Nat} : ∀ (f : Nat) {N N' : Nat → Int32} {t t' : Nat}, zOk N → zZr N → mLoop B L f N t = .ok (t', N') → zOk N' ∧ zZr N'
  | 0, N, N', t, t', h, hz, e => by
    injection e with e; injection e with e4 e5
    subst e5; exact ⟨h, hz⟩
  | f + 1, N, N', t, t', h, hz, e => by
    rw [mLoop] at e
    split at e
    · injection e with e; injection e with e4 e5
      subst e5; exact ⟨h, hz⟩
    · rename_i hk
      obtain ⟨t1, a1, e1, e⟩ := tB_inv e
      have ht : t < L := by
        rcases Nat.lt_or_ge t L with h1 | h1
        · exact h1
        · exact absurd (sKind_0 h1) hk
      obtain ⟨o1, o2, -⟩ := mStat_ok h hz ht e1
      exact mLoop_ok f o1 o2 e
theorem mText_ok {N B : Nat → Int32} {L t' : Nat} (e : mText B L = .ok (t', N)) : zOk N ∧ zZr N := by
  obtain ⟨t1, a1, e1, e⟩ := tB_inv e
  obtain ⟨o1, o2⟩ := mGal_ok e1
  exact mLoop_ok L o1 o2 e
theorem zE.put {x r w : Nat} {i0 i : Ni} {j0 j : Nj} {c : Int32} {f : Nat → Int32} (hr : r ≠ x) (h : zE x r i0 j0 c w i j) : zE x r i0 j0 c w (wA i r f) j := by
  obtain ⟨h1, h2, h3, f1, f2, f3, f4⟩ := h
  have e1 : wA i r f x = i x := wA_n (fun h => hr h.symm)
  exact ⟨by rw [e1]; exact h1, h2, by rw [e1]; exact h3, fun m a b c d e e3 e4 => by rw [e1]; exact f1 m a b c d e e3 e4, fun q h1 h2 => by rw [wA_n h2]; exact f2 q h1 h2, f3, f4⟩
theorem zG.j10 {x b r L t : Nat} {B N : Nat → Int32} {i0 i : Ni} {j0 j : Nj} (h : zG x b r L B N i0 j0 t i j) (m : Nat) (hm : m ≠ 10) : j x m = j0 x m := h.2.2.2.2.2.2.1 m hm

