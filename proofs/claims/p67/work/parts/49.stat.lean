/-! ===== STATEMENTS OF A TEXT AS PURE FUNCTIONS of the row ===== -/
abbrev tTube (N B : Nat → Int32) (L t : Nat) : PE Int32 := tNum B L (nI 0) (N 5 - nI 1) t
def mLeaky (v : Int32) (N B : Nat → Int32) (L t : Nat) : PE (Nat → Int32) := tB (tNum B L (nI 0) (N 5 - nI 1) (sNext B L t)) fun t k => tB (tEnd B L False t) fun t _ => .ok (t, upd N (42 + 21 * zn k + 6) v)
def mDip (N B : Nat → Int32) (L t : Nat) : PE (Nat → Int32) := tB (tNum B L (nI 0) (N 5 - nI 1) (sNext B L t)) fun t k => tB (tBa N B L t) fun t c => tB (tEnd B L (¬ sDip N (zn k) c = 0) t) fun t _ => .ok (t, upd N (42 + 21 * zn k + 7) c)
def mLift (N B : Nat → Int32) (L t : Nat) : PE (Nat → Int32) := tB (tNum B L (nI 0) (N 5 - nI 1) (sNext B L t)) fun t k => tB (tEnd B L (N (42 + 21 * zn k + 7) = -1) t) fun t _ => .ok (t, upd N (42 + 21 * zn k + 7) (-1))
def mMark (N B : Nat → Int32) (L t : Nat) : PE (Nat → Int32) := tB (tNum B L (nI 0) (N 5 - nI 1) (sNext B L t)) fun t k => tB (tEnd B L (¬ sMark N (zn k) = 0) t) fun t _ => .ok (t, sPut N (zn k))
def mThumb (N B : Nat → Int32) (L t : Nat) : PE (Nat → Int32) := tB (tNum B L (nI 0) (N 5 - nI 1) (sNext B L t)) fun t k => tB (tNum B L (nI 1) (nI 60) t) fun t m => tB (tEnd B L False t) fun t _ => .ok (t, aThumb N (zn k) m)
def mFill (N B : Nat → Int32) (L t : Nat) : PE (Nat → Int32) := tB (tNum B L (nI 0) (N 5 - nI 1) (sNext B L t)) fun t k => tB (tNum B L (nI 1) (nI 999) t) fun t a => tB (tEnd B L (nI 999 < N (42 + 21 * zn k + 4) + a) t) fun t _ => .ok (t, aPour N (zn k) a)
def mErase (N B : Nat → Int32) (L t : Nat) : PE (Nat → Int32) := tB (tNum B L (nI 0) (N 5 - nI 1) (sNext B L t)) fun t k => tB (tNum B L (nI 0) (N (42 + 21 * zn k + 8) - nI 1) t) fun t q => tB (tEnd B L False t) fun t _ => .ok (t, sErase N (zn k) (zn q))
def mRoom (N B : Nat → Int32) (L t : Nat) : PE (Nat → Int32) := tB (tDeg B L (sNext B L t)) fun t v => tB (tEnd B L False t) fun t _ => .ok (t, upd N 0 v)
def mPass (N B : Nat → Int32) (L t : Nat) : PE (Nat → Int32) := tB (tNum B L (nI 0) (nI 300) (sNext B L t)) fun t v => tB (tEnd B L False t) fun t _ => .ok (t, sWalk N (zn v))
def mTube (N B : Nat → Int32) (L t : Nat) : PE (Nat → Int32) := if N 5 = nI 8 then .error (nI 5, t) else tB (tSp N B L (sNext B L t)) fun t a => tB (tNum B L (nI 1) (nI 50) t) fun t b => tB (tNum B L (nI 1) (nI 9) t) fun t o => tB (tNum B L (nI 10) (nI 999) t) fun t l => tB (tNum B L (nI 0) (nI 999) t) fun t f => tB (tEnd B L False t) fun t _ => .ok (t, aTube N (zn (N 5)) a b o l f)
/-- a new name at t: behind it -/
def tNew (N B : Nat → Int32) (L t : Nat) : PE Unit := if ¬ sKind B L t = 1 then .error (nI 1, t) else if 4 < sLtr B L t then .error (nI 2, t) else if ¬ sUntil (fSp N B L t) 0 (zn (N 3)) = -1 ∨ ¬ sUntil (fBa N B L t) 0 (zn (N 4)) = -1 then .error (nI 3, t) else .ok (sNext B L t, ())
def mSpirit (N B : Nat → Int32) (L t : Nat) : PE (Nat → Int32) := if N 3 = nI 5 then .error (nI 5, t) else tB (tNew N B L (sNext B L t)) fun t1 _ => tB (tNum B L (nI 1) (nI 40) t1) fun t2 v => tB (tEnd B L False t2) fun t3 _ => .ok (t3, aSpirit N (zn (N 3)) (sSpl B L (sNext B L t)).toInt32 (nI (sLtr B L (sNext B L t))) v)
def mBath (N B : Nat → Int32) (L t : Nat) : PE (Nat → Int32) := if N 4 = nI 4 then .error (nI 5, t) else tB (tNew N B L (sNext B L t)) fun t1 _ => tB (tDeg B L t1) fun t2 v => tB (tEnd B L False t2) fun t3 _ => .ok (t3, aBath N (zn (N 4)) (sSpl B L (sNext B L t)).toInt32 (nI (sLtr B L (sNext B L t))) v)
abbrev isW (B : Nat → Int32) (L t : Nat) (w : Int64) : Prop := sKind B L t = 1 ∧ sLtr B L t ≤ 8 ∧ sSpl B L t = w
theorem tPoint_nat {L t k : Nat} {B N : Nat → Int32} {v : Int32} {t' : Nat} (hO : zOk N) (hk : k < zn (N 5)) (e : tNum B L (nI 0) (N (42 + 21 * k + 8) - nI 1) t = .ok (t', v)) : ∃ q, v = nI q ∧ q < sMany N k := by
  obtain ⟨h, -⟩ := tNum_in e
  obtain ⟨h1, h2⟩ := hO.many hk
  have e2 : (N (42 + 21 * k + 8) - nI 1).toInt = (sMany N k : Int) - 1 := by
    rw [h1, Int32.toInt_sub, nI_toInt (by omega), nI_toInt (by omega), Int.bmod_eq_of_le] <;> omega
  rw [nI_toInt (by omega), e2] at h
  obtain ⟨q, q1, q2, q3⟩ := h.ex (by omega)
  exact ⟨q, q1, by omega⟩


