theorem n64_lt {p : UInt64} (h : vf_n64 p) : p.toNat % 2 ^ 63 ≤ 0x7ff0000000000000 := by
  have h1 : (p &&& 0x7fffffffffffffff).toNat ≤ (0x7ff0000000000000 : UInt64).toNat := UInt64.le_iff_toNat_le.mp h
  rw [UInt64.toNat_and, show (0x7fffffffffffffff : UInt64).toNat = 2 ^ 63 - 1 by decide, Nat.and_two_pow_sub_one_eq_mod] at h1
  exact h1
theorem d64_ne {p : UInt64} (h : vf_n64 p) : FP.Core.decode FP.Core.b64 p.toNat ≠ FP.Core.Datum.nan := by
  have h1 := n64_lt h
  have eE : FP.Core.fieldE FP.Core.b64 p.toNat = p.toNat / 2 ^ 52 % 2 ^ 11 := rfl
  have eT : FP.Core.fieldT FP.Core.b64 p.toNat = p.toNat % 2 ^ 52 := rfl
  have eX : FP.Core.b64.exps - 1 = 2047 := rfl
  rw [FP.Core.decode, eE, eT, eX]
  split
  · rename_i h2
    rw [if_pos (by omega)]
    exact fun e => by cases e
  · split
    · exact fun e => by cases e
    · exact fun e => by cases e
theorem cmp_self9 (a : Int) : compare a a = Ordering.eq := by
  simp
theorem dc_refl {p : UInt64} (h : vf_n64 p) (op : CmpOp) : Op.cmpValue (FP.dcmp p p) op = 0 := by
  have h2 := d64_ne h
  have e : FP.dcmp p p = FP.Core.order (FP.Core.decode FP.Core.b64 p.toNat) (FP.Core.decode FP.Core.b64 p.toNat) := rfl
  rw [e]
  cases hd : FP.Core.decode FP.Core.b64 p.toNat with
  | nan => exact absurd hd h2
  | inf s =>
    show Op.cmpValue (some (compare _ _)) op = 0
    rw [cmp_self9]; rfl
  | fin s c q =>
    show Op.cmpValue (some (compare _ _)) op = 0
    rw [cmp_self9]; rfl
theorem nfd_all : ∀ a : Fin 9, ∀ b : Fin 9, b.val ≠ 0 → (FP.f2d (FP.fdiv (FP.i2f (nI a.val)) (FP.i2f (nI b.val)))) &&& 0x7fffffffffffffff ≤ 0x7ff0000000000000 := by decide +kernel
theorem nfd_share (N : Nat → Int32) {m : Nat} (hm : m ≤ 8) : vf_n64 (FP.f2d (sShare N m)) := by
  rw [sShare]
  split
  · show FP.f2d FP.fconst0 &&& 0x7fffffffffffffff ≤ 0x7ff0000000000000
    decide +kernel
  · rename_i h0
    have := sStills_le N m
    exact nfd_all ⟨sStills N m, by omega⟩ ⟨m, by omega⟩ h0

