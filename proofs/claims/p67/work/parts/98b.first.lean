/-! ===== THE FIRST TEXT ===== -/
def eqP {α : Type} [DecidableEq α] (x : PE α) (t : Nat) (v : α) : Bool := match x with
  | .ok (t', v') => decide (t' = t) && decide (v' = v)
  | .error _ => false
theorem eqP_ok {α : Type} [DecidableEq α] {x : PE α} {t : Nat} {v : α} (h : eqP x t v = true) : x = .ok (t, v) := by
  unfold eqP at h
  split at h
  · rename_i t' v'
    simp only [Bool.and_eq_true, decide_eq_true_eq] at h
    rw [h.1, h.2]
  · exact absurd h (by decide)
def fstB : Nat → Int32 := fun k => (zbyt ((zstr.getD 0 ("", 0, "")).2.2)).getD k 0
def fstL : Nat := (zbyt ((zstr.getD 0 ("", 0, "")).2.2)).length
theorem mPass_e {N B : Nat → Int32} {L t t1 t2 n : Nat} {v : Int32} (h1 : eqP (tNum B L (nI 0) (nI 300) (sNext B L t)) t1 v = true) (h2 : eqP (tEnd B L False t1) t2 () = true) (hn : zn v = n) : mPass N B L t = .ok (t2, sWalk N n) := by
  rw [mPass, eqP_ok h1]
  show tB (tEnd B L False t1) _ = _
  rw [eqP_ok h2, ← hn]
  rfl
theorem mSpirit_e {N B : Nat → Int32} {L t t1 t2 t3 n : Nat} {v : Int32} (h0 : decide (N 3 = nI 5) = false) (hn : zn (N 3) = n) (h1 : eqP (tNew N B L (sNext B L t)) t1 () = true) (h2 : eqP (tNum B L (nI 1) (nI 40) t1) t2 v = true) (h3 : eqP (tEnd B L False t2) t3 () = true) : mSpirit N B L t = .ok (t3, aSpirit N n (sSpl B L (sNext B L t)).toInt32 (nI (sLtr B L (sNext B L t))) v) := by
  rw [mSpirit, if_neg (of_decide_eq_false h0), eqP_ok h1]
  show tB (tNum B L (nI 1) (nI 40) t1) _ = _
  rw [eqP_ok h2]
  show tB (tEnd B L False t2) _ = _
  rw [eqP_ok h3, ← hn]
  rfl
theorem mBath_e {N B : Nat → Int32} {L t t1 t2 t3 n : Nat} {v : Int32} (h0 : decide (N 4 = nI 4) = false) (hn : zn (N 4) = n) (h1 : eqP (tNew N B L (sNext B L t)) t1 () = true) (h2 : eqP (tDeg B L t1) t2 v = true) (h3 : eqP (tEnd B L False t2) t3 () = true) : mBath N B L t = .ok (t3, aBath N n (sSpl B L (sNext B L t)).toInt32 (nI (sLtr B L (sNext B L t))) v) := by
  rw [mBath, if_neg (of_decide_eq_false h0), eqP_ok h1]
  show tB (tDeg B L t1) _ = _
  rw [eqP_ok h2]
  show tB (tEnd B L False t2) _ = _
  rw [eqP_ok h3, ← hn]
  rfl
theorem mDip_e {N B : Nat → Int32} {L t t1 t2 t3 n : Nat} {k c : Int32} (h1 : eqP (tNum B L (nI 0) (N 5 - nI 1) (sNext B L t)) t1 k = true) (hn : zn k = n) (h2 : eqP (tBa N B L t1) t2 c = true) (h3 : eqP (tEnd B L (¬ sDip N n c = 0) t2) t3 () = true) : mDip N B L t = .ok (t3, upd N (42 + 21 * n + 7) c) := by
  subst hn
  rw [mDip, eqP_ok h1]
  show tB (tBa N B L t1) _ = _
  rw [eqP_ok h2]
  show tB (tEnd B L (¬ sDip N (zn k) c = 0) t2) _ = _
  rw [eqP_ok h3]
  rfl
theorem mLift_e {N B : Nat → Int32} {L t t1 t2 n : Nat} {k : Int32} (h1 : eqP (tNum B L (nI 0) (N 5 - nI 1) (sNext B L t)) t1 k = true) (hn : zn k = n) (h2 : eqP (tEnd B L (N (42 + 21 * n + 7) = -1) t1) t2 () = true) : mLift N B L t = .ok (t2, upd N (42 + 21 * n + 7) (-1)) := by
  subst hn
  rw [mLift, eqP_ok h1]
  show tB (tEnd B L (N (42 + 21 * zn k + 7) = -1) t1) _ = _
  rw [eqP_ok h2]
  rfl
theorem mMark_e {N B : Nat → Int32} {L t t1 t2 n : Nat} {k : Int32} (h1 : eqP (tNum B L (nI 0) (N 5 - nI 1) (sNext B L t)) t1 k = true) (hn : zn k = n) (h2 : eqP (tEnd B L (¬ sMark N n = 0) t1) t2 () = true) : mMark N B L t = .ok (t2, sPut N n) := by
  subst hn
  rw [mMark, eqP_ok h1]
  show tB (tEnd B L (¬ sMark N (zn k) = 0) t1) _ = _
  rw [eqP_ok h2]
  rfl
theorem mLeaky_e {N B : Nat → Int32} {L t t1 t2 n : Nat} {k v : Int32} (h1 : eqP (tNum B L (nI 0) (N 5 - nI 1) (sNext B L t)) t1 k = true) (hn : zn k = n) (h2 : eqP (tEnd B L False t1) t2 () = true) : mLeaky v N B L t = .ok (t2, upd N (42 + 21 * n + 6) v) := by
  subst hn
  rw [mLeaky, eqP_ok h1]
  show tB (tEnd B L False t1) _ = _
  rw [eqP_ok h2]
  rfl
theorem mThumb_e {N B : Nat → Int32} {L t t1 t2 t3 n : Nat} {k m : Int32} (h1 : eqP (tNum B L (nI 0) (N 5 - nI 1) (sNext B L t)) t1 k = true) (hn : zn k = n) (h2 : eqP (tNum B L (nI 1) (nI 60) t1) t2 m = true) (h3 : eqP (tEnd B L False t2) t3 () = true) : mThumb N B L t = .ok (t3, aThumb N n m) := by
  subst hn
  rw [mThumb, eqP_ok h1]
  show tB (tNum B L (nI 1) (nI 60) t1) _ = _
  rw [eqP_ok h2]
  show tB (tEnd B L False t2) _ = _
  rw [eqP_ok h3]
  rfl
theorem mTube_e {N B : Nat → Int32} {L t t1 t2 t3 t4 t5 t6 n : Nat} {a b o l f : Int32} (h0 : decide (N 5 = nI 8) = false) (hn : zn (N 5) = n) (h1 : eqP (tSp N B L (sNext B L t)) t1 a = true) (h2 : eqP (tNum B L (nI 1) (nI 50) t1) t2 b = true) (h3 : eqP (tNum B L (nI 1) (nI 9) t2) t3 o = true) (h4 : eqP (tNum B L (nI 10) (nI 999) t3) t4 l = true) (h5 : eqP (tNum B L (nI 0) (nI 999) t4) t5 f = true) (h6 : eqP (tEnd B L False t5) t6 () = true) : mTube N B L t = .ok (t6, aTube N n a b o l f) := by
  subst hn
  rw [mTube, if_neg (of_decide_eq_false h0), eqP_ok h1]
  show tB (tNum B L (nI 1) (nI 50) t1) _ = _
  rw [eqP_ok h2]
  show tB (tNum B L (nI 1) (nI 9) t2) _ = _
  rw [eqP_ok h3]
  show tB (tNum B L (nI 10) (nI 999) t3) _ = _
  rw [eqP_ok h4]
  show tB (tNum B L (nI 0) (nI 999) t4) _ = _
  rw [eqP_ok h5]
  show tB (tEnd B L False t5) _ = _
  rw [eqP_ok h6]
  rfl


