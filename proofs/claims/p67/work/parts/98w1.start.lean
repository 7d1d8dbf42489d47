/-! ===== WHAT THE STATEMENT GIVES OF THE START ===== -/
def zFl : List Cond := flatC (Jvm.Cond.and given_1 narrow_1)
def zoff : List Nat := [259, 469, 480, 490, 498, 506, 514, 522, 529, 537, 545, 554, 562, 571, 579, 617, 629, 634, 638, 643, 648, 659, 668, 675, 970, 978, 985, 994, 1001, 1006, 1015]
def stV (own : String) (k : Nat) : Term := .field (.string own k) "java/lang/String" "value" "[B"
def stC (own : String) (k : Nat) (bs : List Int32) : List Cond :=
  [.exactly (.string own k) "java/lang/String", .eq (.field (.string own k) "java/lang/String" "coder" "B") (.int 0), .arrayOf (stV own k) .byte, .eq (.length (stV own k)) (.int (Int32.ofNat bs.length))] ++ (List.range bs.length).map (fun j => .eq (.elem (stV own k) (.int (Int32.ofNat j))) (.int (bs.getD j 0)))
def dgC (nm : String) (f : Nat → Nat) : List Cond :=
  [.arrayOf (.static "java/lang/Integer" nm "[B") .byte, .eq (.length (.static "java/lang/Integer" nm "[B")) (.int (Int32.ofNat 100))] ++ (List.range 100).map (fun j => .eq (.elem (.static "java/lang/Integer" nm "[B") (.int (Int32.ofNat j))) (.int (nI (f j))))
theorem zFl_st : (List.range 31).all (fun n => match zstr[n]? with
  | some q => decide ((zFl.drop (zoff.getD n 0)).take (4 + (zbyt q.2.2).length) = stC q.1 q.2.1 (zbyt q.2.2))
  | none => false) = true := by decide +kernel
theorem zFl_d1 : decide ((zFl.drop 12).take 102 = dgC "DigitOnes" (fun j => 48 + j % 10)) = true := by decide +kernel
theorem zFl_d2 : decide ((zFl.drop 115).take 102 = dgC "DigitTens" (fun j => 48 + j / 10)) = true := by decide +kernel
theorem zFl_at : decide (zFl[4]? = some (.eq (.static "java/lang/String" "COMPACT_STRINGS" "Z") (.int 1)) ∧ zFl[5]? = some (.isRef (.static "jdk/internal/util/Preconditions" "SIOOBE_FORMATTER" "Ljava/util/function/BiFunction;")) ∧ zFl[9]? = some (.isRef (.static Bundle.tN "UNASSIGNED_STACK" Bundle.steD)) ∧ zFl[10]? = some (.isRef (.static Bundle.tN "SUPPRESSED_SENTINEL" Bundle.listD))) = true := by decide +kernel
/-- a row of names of the law's -/
def naC (nm : String) (ks : List Nat) : List Cond :=
  [.arrayOf (.static RL nm "[Ljava/lang/String;") (.object "java/lang/String"), .eq (.length (.static RL nm "[Ljava/lang/String;")) (.int (Int32.ofNat ks.length))] ++ (List.range ks.length).map (fun j => .eq (.elem (.static RL nm "[Ljava/lang/String;") (.int (Int32.ofNat j))) (.string RL (ks.getD j 0)))
theorem zFl_sp : decide ((zFl.drop 218).take 5 = naC "SPIRITS" [361, 363, 365]) = true := by decide +kernel
theorem zFl_ba : decide ((zFl.drop 224).take 6 = naC "BATHS" [367, 369, 371, 372]) = true := by decide +kernel

