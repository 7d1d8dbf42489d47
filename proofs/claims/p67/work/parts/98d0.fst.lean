/-! ===== THE FIRST TEXT, STATEMENT BY STATEMENT ===== -/
theorem zTl_lit {l : List Int32} (h : l.length = 210) : zTl (fr l) := fun q hq => by
  rw [fr, List.getD_eq_getElem?_getD, List.getElem?_eq_none (by omega)]
  rfl
theorem row_to {N : Nat → Int32} {l : List Int32} (h : zTl N) (e : decide (toL N = l) = true) : N = fr l := (fr_toL h).symm.trans (congrArg fr (of_decide_eq_true e))
theorem row_walk {l l2 : List Int32} {n : Nat} (h : zTl (fr l)) (hO : zOk (fr l)) (e : decide (lWalk l n = l2) = true) : sWalk (fr l) n = fr l2 := (lWalk_e h hO n).1.symm.trans (congrArg fr (of_decide_eq_true e))
theorem mL_s {N N' B : Nat → Int32} {L t t' f : Nat} (h0 : decide (sKind B L t = 0) = false) (h : mStat N B L t = .ok (t', N')) : mLoop B L (f + 1) N t = mLoop B L f N' t' := by
  rw [mLoop, if_neg (of_decide_eq_false h0), h]
  rfl
theorem mL_0 {N B : Nat → Int32} {L t f : Nat} (h0 : decide (sKind B L t = 0) = true) : mLoop B L (f + 1) N t = .ok (t, N) := by
  rw [mLoop, if_pos (of_decide_eq_true h0)]
theorem isW_d {B : Nat → Int32} {L t : Nat} {w : Int64} (h : decide (isW B L t w) = true) : isW B L t w := of_decide_eq_true h
theorem mText_f {B : Nat → Int32} {L f t : Nat} {N : Nat → Int32} (hL : L = f) (h : mGal B L (sSkip B L L 0) = .ok (t, N)) : mText B L = mLoop B L f N t := by
  subst hL
  rw [mText, h]
  rfl
theorem mGal_e {B : Nat → Int32} {L t t1 t2 t3 : Nat} {v l : Int32} (hw : isW B L t wd_gallery) (h1 : eqP (tDeg B L (sNext B L t)) t1 v = true) (h2 : eqP (tNum B L (nI 1) (nI 20) t1) t2 l = true) (h3 : eqP (tEnd B L False t2) t3 () = true) : mGal B L t = .ok (t3, aGal v l) := by
  rw [mGal, if_pos hw, eqP_ok h1]
  show tB (tNum B L (nI 1) (nI 20) t1) _ = _
  rw [eqP_ok h2]
  show tB (tEnd B L False t2) _ = _
  rw [eqP_ok h3]
  rfl
theorem fstL_e : fstL = 206 := by decide +kernel
def fbl_ : List Int32 := [nI 103, nI 97, nI 108, nI 108, nI 101, nI 114, nI 121, nI 32, nI 50, nI 48, nI 32, nI 52, nI 59, nI 115, nI 112, nI 105, nI 114, nI 105, nI 116, nI 32, nI 119, nI 105, nI 110, nI 101, nI 32, nI 49, nI 48, nI 59, nI 115, nI 112, nI 105, nI 114, nI 105, nI 116, nI 32, nI 111, nI 105, nI 108, nI 32, nI 54, nI 59, nI 98, nI 97, nI 116, nI 104, nI 32, nI 105, nI 99, nI 101, nI 32, nI 48, nI 59, nI 98, nI 97, nI 116, nI 104, nI 32, nI 98, nI 111, nI 105, nI 108, nI 32, nI 49, nI 48, nI 48, nI 59, nI 116, nI 117, nI 98, nI 101, nI 32, nI 119, nI 105, nI 110, nI 101, nI 32, nI 50, nI 48, nI 32, nI 50, nI 32, nI 51, nI 48, nI 48, nI 32, nI 53, nI 59, nI 116, nI 117, nI 98, nI 101, nI 32, nI 111, nI 105, nI 108, nI 32, nI 51, nI 48, nI 32, nI 51, nI 32, nI 57, nI 48, nI 32, nI 56, nI 59, nI 100, nI 105, nI 112, nI 32, nI 48, nI 32, nI 105, nI 99, nI 101, nI 59, nI 100, nI 105, nI 112, nI 32, nI 49, nI 32, nI 98, nI 111, nI 105, nI 108, nI 59, nI 112, nI 97, nI 115, nI 115, nI 32, nI 52, nI 48, nI 59, nI 109, nI 97, nI 114, nI 107, nI 32, nI 48, nI 59, nI 109, nI 97, nI 114, nI 107, nI 32, nI 49, nI 59, nI 100, nI 105, nI 112, nI 32, nI 48, nI 32, nI 98, nI 111, nI 105, nI 108, nI 59, nI 112, nI 97, nI 115, nI 115, nI 32, nI 52, nI 48, nI 59, nI 109, nI 97, nI 114, nI 107, nI 32, nI 48, nI 59, nI 108, nI 105, nI 102, nI 116, nI 32, nI 48, nI 59, nI 108, nI 101, nI 97, nI 107, nI 32, nI 49, nI 59, nI 116, nI 104, nI 117, nI 109, nI 98, nI 32, nI 49, nI 32, nI 51, nI 59, nI 112, nI 97, nI 115, nI 115, nI 32, nI 50, nI 59]
def fbB : Nat → Int32 := fr fbl_
theorem fbl_e : zbyt ((zstr.getD 0 ("", 0, "")).2.2) = fbl_ := by decide +kernel
theorem fbB_e : fstB = fbB := by
  funext k
  show (zbyt ((zstr.getD 0 ("", 0, "")).2.2)).getD k 0 = fbl_.getD k 0
  rw [fbl_e]
theorem fz_0 : zTl (fr f0_) := zTl_lit (by decide +kernel)
theorem fz_1 : zTl (fr f1_) := zTl_lit (by decide +kernel)
theorem fz_2 : zTl (fr f2_) := zTl_lit (by decide +kernel)
theorem fz_3 : zTl (fr f3_) := zTl_lit (by decide +kernel)
theorem fz_4 : zTl (fr f4_) := zTl_lit (by decide +kernel)
theorem fz_5 : zTl (fr f5_) := zTl_lit (by decide +kernel)
theorem fz_6 : zTl (fr f6_) := zTl_lit (by decide +kernel)
theorem fz_7 : zTl (fr f7_) := zTl_lit (by decide +kernel)
theorem fz_8 : zTl (fr f8_) := zTl_lit (by decide +kernel)
theorem fz_9 : zTl (fr f9_) := zTl_lit (by decide +kernel)
theorem fz_10 : zTl (fr f10_) := zTl_lit (by decide +kernel)
theorem fz_11 : zTl (fr f11_) := zTl_lit (by decide +kernel)
theorem fz_12 : zTl (fr f12_) := zTl_lit (by decide +kernel)
theorem fz_13 : zTl (fr f13_) := zTl_lit (by decide +kernel)
theorem fz_14 : zTl (fr f14_) := zTl_lit (by decide +kernel)
theorem fz_15 : zTl (fr f15_) := zTl_lit (by decide +kernel)
theorem fz_16 : zTl (fr f16_) := zTl_lit (by decide +kernel)
theorem fz_17 : zTl (fr f17_) := zTl_lit (by decide +kernel)
theorem fz_18 : zTl (fr f18_) := zTl_lit (by decide +kernel)
theorem f0_row : aGal (nI 20) (nI 4) = fr f0_ := row_to (((zTl.up (zTl.up (zTl.up (fun _ _ => rfl) (by decide +kernel)) (by decide +kernel)) (by decide +kernel)) : zTl (aGal (nI 20) (nI 4)))) (by decide +kernel)
theorem f0_ok : mGal fbB 206 (sSkip fbB 206 206 0) = .ok (13, fr f0_) := by
  have e := mGal_e (B := fbB) (L := 206) (t := 0) (t1 := 11) (t2 := 12) (t3 := 13) (v := nI 20) (l := nI 4) (isW_d (by decide +kernel)) (by decide +kernel) (by decide +kernel) (by decide +kernel)
  rw [f0_row] at e
  rw [show sSkip fbB 206 206 0 = 0 by decide +kernel]
  exact e


