/-! ===== WHAT THE LAW KEEPS BETWEEN TWO CALLS: the class at c, the model at x, the array ol ===== -/
def dM (x n d b p s o r : Nat) : Prop := r = x ∨ r = n ∨ r = d ∨ r = b ∨ r = p ∨ r = s ∨ r = o
/-- the shape -/
def iSh (g : Sh) (c rd tx ur sl sf sb : Nat) (A : Nat → Nat → Nat) (x n d b p s o ol : Nat) : Prop :=
  zY g c rd tx ur sl sf sb A ∧ zW g x n d b p s o ∧ gR g x 3 = n ∧ (gT g ol = 14 ∧ gL g ol = 1) ∧ tx ≠ gR g sb 0 ∧
  ∀ r, dM x n d b p s o r → r ≠ c ∧ r ≠ rd ∧ r ≠ tx ∧ r ≠ sf ∧ r ≠ sb ∧ r ≠ gR g sb 0 ∧ ∀ m q, m < 11 → q < 30 → r ≠ A m q
def iRow (i : Ni) (A : Nat → Nat → Nat) (n : Nat) : Prop := zOk (i n) ∧ zH i (A 0) (i n) ∧ ∀ m, m < 11 → zNo i (A m)
def iPast (i : Ni) (c : Nat) (A : Nat → Nat → Nat) (x p u w : Nat) : Prop := i c 7 = nI u ∧ u < 6 ∧ i c 8 = nI w ∧ w ≤ 6 ∧ i x 29 = nI w ∧ ∀ k, k < w → zH i (A (3 + (u + 5 - k) % 6)) (fun a => i p (210 * (w - 1 - k) + a))
def iSlot (i : Ni) (sf : Nat) (A : Nat → Nat → Nat) (x s : Nat) : Prop := ∀ q, q < 2 → ∃ f, (f = 0 ∨ f = 1) ∧ i sf q = nI f ∧ (zBit (i x 31) q ↔ f = 1) ∧ (f = 1 → zH i (A (9 + q)) (fun a => i s (210 * q + a)))
def iTxt (i : Ni) (rd tx x b L : Nat) : Prop := i rd 2 = nI L ∧ i x 5 = nI L ∧ L ≤ 600 ∧ zByt (i tx) ∧ zByt (i b) ∧ ∀ k, k < L → i tx k = i b k
def iOut (g : Sh) (i : Ni) (j : Nj) (sb x o : Nat) (O : List Int32) : Prop := zWd (j x) ∧ zBu g i sb O ∧ zL (i x) (i o) O
def iNu (g : Sh) (i : Ni) (j : Nj) (c rd tx sf sb : Nat) (A : Nat → Nat → Nat) (x n b p s o u w L : Nat) (O : List Int32) : Prop :=
  iRow i A n ∧ iPast i c A x p u w ∧ iSlot i sf A x s ∧ (i c 9 = i x 32 ∧ i c 10 = i x 33) ∧ iTxt i rd tx x b L ∧ iOut g i j sb x o O
def iInv (g : Sh) (i : Ni) (j : Nj) (c rd tx ur sl sf sb : Nat) (A : Nat → Nat → Nat) (x n d b p s o ol : Nat) : Prop :=
  iSh g c rd tx ur sl sf sb A x n d b p s o ol ∧ ∃ u w L O, iNu g i j c rd tx sf sb A x n b p s o u w L O
section
variable {g : Sh} {i i' : Ni} {j j' : Nj} {c rd tx ur sl sf sb : Nat} {A : Nat → Nat → Nat} {x n d b p s o ol u w L : Nat} {O : List Int32}
theorem iSh.y (h : iSh g c rd tx ur sl sf sb A x n d b p s o ol) : zY g c rd tx ur sl sf sb A := h.1
theorem iSh.ww (h : iSh g c rd tx ur sl sf sb A x n d b p s o ol) : zW g x n d b p s o := h.2.1
theorem iSh.r3 (h : iSh g c rd tx ur sl sf sb A x n d b p s o ol) : gR g x 3 = n := h.2.2.1
theorem iSh.oo (h : iSh g c rd tx ur sl sf sb A x n d b p s o ol) : gT g ol = 14 ∧ gL g ol = 1 := h.2.2.2.1
theorem iSh.di (h : iSh g c rd tx ur sl sf sb A x n d b p s o ol) {r : Nat} (hr : dM x n d b p s o r) : r ≠ c ∧ r ≠ rd ∧ r ≠ tx ∧ r ≠ sf ∧ r ≠ sb ∧ r ≠ gR g sb 0 ∧ ∀ m q, m < 11 → q < 30 → r ≠ A m q := h.2.2.2.2.2 r hr
theorem dM_x : dM x n d b p s o x := Or.inl rfl
theorem dM_n : dM x n d b p s o n := Or.inr (Or.inl rfl)
theorem dM_d : dM x n d b p s o d := Or.inr (Or.inr (Or.inl rfl))
theorem dM_b : dM x n d b p s o b := Or.inr (Or.inr (Or.inr (Or.inl rfl)))
theorem dM_p : dM x n d b p s o p := Or.inr (Or.inr (Or.inr (Or.inr (Or.inl rfl))))
theorem dM_s : dM x n d b p s o s := Or.inr (Or.inr (Or.inr (Or.inr (Or.inr (Or.inl rfl)))))
theorem dM_o : dM x n d b p s o o := Or.inr (Or.inr (Or.inr (Or.inr (Or.inr (Or.inr rfl)))))
/-- kinds of the class's own cells -/
theorem iSh.kc (h : iSh g c rd tx ur sl sf sb A x n d b p s o ol) : gT g c = 4 := h.1.1
theorem iSh.krd (h : iSh g c rd tx ur sl sf sb A x n d b p s o ol) : gT g rd = 2 := h.1.2.2.2.2.2.2.2.2.1.1
theorem iSh.ktx (h : iSh g c rd tx ur sl sf sb A x n d b p s o ol) : gT g tx = 12 := h.1.2.2.2.2.2.2.2.2.2.1.1
theorem iSh.ksf (h : iSh g c rd tx ur sl sf sb A x n d b p s o ol) : gT g sf = 13 := h.1.2.2.2.2.2.2.2.2.2.2.2.2.1.1
theorem iSh.ksb (h : iSh g c rd tx ur sl sf sb A x n d b p s o ol) : gT g sb = 6 := h.1.2.2.2.2.2.2.2.2.2.2.2.2.2.1
theorem iSh.cc (h : iSh g c rd tx ur sl sf sb A x n d b p s o ol) {m : Nat} (hm : m < 11) : zC g (A m) := h.1.cc hm
theorem iSh.an (h : iSh g c rd tx ur sl sf sb A x n d b p s o ol) {m q r t : Nat} (hm : m < 11) (hq : q < 30) (hr : gT g r = t) (ht : t ≠ 1 ∧ t ≠ 11 ∧ t ≠ 15 ∧ t ≠ 3) : A m q ≠ r := (h.cc hm).k12 hr ht hq
theorem k_ne {r q t v : Nat} (hr : gT g r = t) (hq : gT g q = v) (h : t ≠ v) : r ≠ q := fun e => h (by rw [← hr, ← hq, e])
/-- what the class keeps and the model keeps may be told apart: the memory changed only where nothing of this is -/
theorem iNu.ask (hS : iSh g c rd tx ur sl sf sb A x n d b p s o ol) (h : iNu g i j c rd tx sf sb A x n b p s o u w L O) (hi : ∀ r, r ≠ x → r ≠ d → (∀ q, q < 30 → r ≠ A 1 q) → i' r = i r) (hx : ∀ m, m ≠ 0 → i' x m = i x m) (h1 : zNo i' (A 1)) (hj : j' x = j x) : iNu g i' j' c rd tx sf sb A x n b p s o u w L O := by
  obtain ⟨⟨a1, a2, a3⟩, ⟨b1, b2, b3, b4, b5, b6⟩, c1, ⟨d1, d2⟩, ⟨e1, e2, e3, e4, e5, e6⟩, f1, f2, f3⟩ := h
  have hW := hS.ww
  have w8 := hW.2.2.2.2.2.2.2.1.1
  have w1 := hW.1
  have nd := hW.2.2.2.2.2.2.2.2.2.2.2.2.2.1
  have dp := hW.2.2.2.2.2.2.2.2.2.2.2.2.2.2.2.2.2.1
  have ds := hW.2.2.2.2.2.2.2.2.2.2.2.2.2.2.2.2.2.2.1
  have dO := hW.2.2.2.2.2.2.2.2.2.2.2.2.2.2.2.2.2.2.2.1
  have wd := hW.2.2.2.2.2.2.2.2.1.1
  have wb := hW.2.2.2.2.2.2.2.2.2.1.1
  have wp := hW.2.2.2.2.2.2.2.2.2.2.1.1
  have ws := hW.2.2.2.2.2.2.2.2.2.2.2.1.1
  have wo := hW.2.2.2.2.2.2.2.2.2.2.2.2.1.1
  have M : ∀ r, dM x n d b p s o r → r ≠ x → r ≠ d → i' r = i r := fun r hr h1 h2 => hi r h1 h2 (fun q hq => (hS.di hr).2.2.2.2.2.2 1 q (by decide) hq)
  have en : i' n = i n := M n dM_n (k_ne w8 w1 (by decide)) nd
  have eb : i' b = i b := M b dM_b (k_ne wb w1 (by decide)) (k_ne wb wd (by decide))
  have ep : i' p = i p := M p dM_p (k_ne wp w1 (by decide)) (Ne.symm dp)
  have es : i' s = i s := M s dM_s (k_ne ws w1 (by decide)) (Ne.symm ds)
  have eo : i' o = i o := M o dM_o (k_ne wo w1 (by decide)) (Ne.symm dO)
  have C : ∀ r, r ≠ x → r ≠ d → (∀ q, q < 30 → A 1 q ≠ r) → i' r = i r := fun r h1 h2 h3 => hi r h1 h2 (fun q hq => Ne.symm (h3 q hq))
  have ec : i' c = i c := C c (Ne.symm (hS.di dM_x).1) (Ne.symm (hS.di dM_d).1) (fun q hq => hS.an (by decide) hq hS.kc (by decide))
  have er : i' rd = i rd := C rd (Ne.symm (hS.di dM_x).2.1) (Ne.symm (hS.di dM_d).2.1) (fun q hq => hS.an (by decide) hq hS.krd (by decide))
  have et : i' tx = i tx := C tx (Ne.symm (hS.di dM_x).2.2.1) (Ne.symm (hS.di dM_d).2.2.1) (fun q hq => hS.an (by decide) hq hS.ktx (by decide))
  have ef : i' sf = i sf := C sf (Ne.symm (hS.di dM_x).2.2.2.1) (Ne.symm (hS.di dM_d).2.2.2.1) (fun q hq => hS.an (by decide) hq hS.ksf (by decide))
  have ebb : i' sb = i sb := C sb (Ne.symm (hS.di dM_x).2.2.2.2.1) (Ne.symm (hS.di dM_d).2.2.2.2.1) (fun q hq => hS.an (by decide) hq hS.ksb (by decide))
  have eg : i' (gR g sb 0) = i (gR g sb 0) := C _ (Ne.symm (hS.di dM_x).2.2.2.2.2.1) (Ne.symm (hS.di dM_d).2.2.2.2.2.1) (fun q hq => hS.an (by decide) hq f2.2.2.2.1 (by decide))
  have eA : ∀ m q, m < 11 → m ≠ 1 → q < 30 → i' (A m q) = i (A m q) := fun m q hm hm1 hq => hi _ (Ne.symm ((hS.di dM_x).2.2.2.2.2.2 m q hm hq)) (Ne.symm ((hS.di dM_d).2.2.2.2.2.2 m q hm hq)) (fun q2 hq2 => hS.y.ne hm (by decide) hm1 hq hq2)
  refine ⟨⟨by rw [en]; exact a1, by rw [en]; exact a2.ou (fun q hq => eA 0 q (by decide) (by decide) hq), fun m hm => ?_⟩, ⟨by rw [ec]; exact b1, b2, by rw [ec]; exact b3, b4, by rw [hx 29 (by decide)]; exact b5, fun k hk => ?_⟩, fun q hq => ?_, ⟨by rw [ec, hx 32 (by decide)]; exact d1, by rw [ec, hx 33 (by decide)]; exact d2⟩, ⟨by rw [er]; exact e1, by rw [hx 5 (by decide)]; exact e2, e3, by rw [et]; exact e4, by rw [eb]; exact e5, by rw [et, eb]; exact e6⟩, by rw [hj]; exact f1, f2.num ebb eg, ?_⟩
  · by_cases hm1 : m = 1
    · rw [hm1]; exact h1
    · exact fun z hz => by rw [eA m _ hm hm1 (by omega)]; exact a3 m hm z hz
  · rw [ep]
    exact (b6 k hk).ou (fun q hq => eA _ q (by omega) (by omega) hq)
  · obtain ⟨f, q1, q2, q3, q4⟩ := c1 q hq
    refine ⟨f, q1, by rw [ef]; exact q2, by rw [hx 31 (by decide)]; exact q3, fun hf => ?_⟩
    rw [es]
    exact (q4 hf).ou (fun q2 hq2 => eA _ q2 (by omega) (by omega) hq2)
  · obtain ⟨l1, l2, l3⟩ := f3
    exact ⟨by rw [hx 35 (by decide)]; exact l1, l2, by rw [eo]; exact l3⟩
/-- the rows of the past, one more -/
theorem sRem_0 {P N : Nat → Int32} {w a : Nat} (hw : w ≤ 6) (ha : a < 210) : sRem P N w (210 * ((if w = 6 then 6 else w + 1) - 1 - 0) + a) = N a := by
  rw [sRem]
  by_cases h : w = 6
  · rw [if_pos h, if_pos h, yput, if_pos (by omega)]
    exact congrArg N (by omega)
  · rw [if_neg h, if_neg h, yput, if_pos (by omega)]
    exact congrArg N (by omega)
theorem sRem_s {P N : Nat → Int32} {w a k : Nat} (hw : w ≤ 6) (ha : a < 210) (hk : k + 1 < (if w = 6 then 6 else w + 1)) : sRem P N w (210 * ((if w = 6 then 6 else w + 1) - 1 - (k + 1)) + a) = P (210 * (w - 1 - k) + a) := by
  rw [sRem]
  by_cases h : w = 6
  · rw [if_pos h] at hk ⊢
    rw [if_pos h, yput, if_neg (by omega), ydn, if_pos (by omega)]
    exact congrArg P (by omega)
  · rw [if_neg h] at hk ⊢
    rw [if_neg h, yput, if_neg (by omega)]
    exact congrArg P (by omega)
/-- an act: the row N' for N, one more of the past; i1 behind the class, i' behind the model -/
theorem iNu.act {i1 : Ni} {N' : Nat → Int32} (hS : iSh g c rd tx ur sl sf sb A x n d b p s o ol) (h : iNu g i j c rd tx sf sb A x n b p s o u w L O) (hc : zAc c A u w i1 i (i n) N')
    (hx : ∀ m, m ≠ 0 → m ≠ 29 → i' x m = i1 x m) (h29 : i' x 29 = nI (if w = 6 then 6 else w + 1)) (hp : i' p = sRem (i1 p) (i1 n) w) (hn : i' n = N') (hi : ∀ r, r ≠ x → r ≠ p → r ≠ n → i' r = i1 r) (hj : j' x = j x) :
    iNu g i' j' c rd tx sf sb A x n b p s o (if u = 5 then 0 else u + 1) (if w = 6 then 6 else w + 1) L O := by
  obtain ⟨⟨a1, a2, a3⟩, ⟨b1, b2, b3, b4, b5, b6⟩, c1, ⟨d1, d2⟩, ⟨e1, e2, e3, e4, e5, e6⟩, f1, f2, f3⟩ := h
  obtain ⟨q1, q2, q3, q4, q5, q6⟩ := hc
  have hW := hS.ww
  have w1 := hW.1
  have w8 := hW.2.2.2.2.2.2.2.1.1
  have wb := hW.2.2.2.2.2.2.2.2.2.1.1
  have ws := hW.2.2.2.2.2.2.2.2.2.2.2.1.1
  have wo := hW.2.2.2.2.2.2.2.2.2.2.2.2.1.1
  have wp := hW.2.2.2.2.2.2.2.2.2.2.1.1
  have np := hW.2.2.2.2.2.2.2.2.2.2.2.2.2.2.1
  have ns := hW.2.2.2.2.2.2.2.2.2.2.2.2.2.2.2.1
  have no := hW.2.2.2.2.2.2.2.2.2.2.2.2.2.2.2.2.1
  have ps := hW.2.2.2.2.2.2.2.2.2.2.2.2.2.2.2.2.2.2.2.2.1
  have po := hW.2.2.2.2.2.2.2.2.2.2.2.2.2.2.2.2.2.2.2.2.2.1
  have M : ∀ r, dM x n d b p s o r → i1 r = i r := fun r hr => q6 r (hS.di hr).1 (fun q hq => (hS.di hr).2.2.2.2.2.2 0 q (by decide) hq) (fun q hq => (hS.di hr).2.2.2.2.2.2 (3 + u) q (by omega) hq)
  have C : ∀ r, r ≠ x → r ≠ p → r ≠ n → r ≠ c → (∀ q, q < 30 → A 0 q ≠ r) → (∀ q, q < 30 → A (3 + u) q ≠ r) → i' r = i r := fun r h1 h2 h3 h4 h5 h6 => (hi r h1 h2 h3).trans (q6 r h4 (fun q hq => Ne.symm (h5 q hq)) (fun q hq => Ne.symm (h6 q hq)))
  have eb : i' b = i b := (hi b (k_ne wb w1 (by decide)) (k_ne wb wp (by decide)) (k_ne wb w8 (by decide))).trans (M b dM_b)
  have es : i' s = i s := (hi s (k_ne ws w1 (by decide)) (Ne.symm ps) (Ne.symm ns)).trans (M s dM_s)
  have eo : i' o = i o := (hi o (k_ne wo w1 (by decide)) (Ne.symm po) (Ne.symm no)).trans (M o dM_o)
  have hxx : ∀ m, m ≠ 0 → m ≠ 29 → i' x m = i x m := fun m h1 h2 => (hx m h1 h2).trans (congrFun (M x dM_x) m)
  have Dx := hS.di dM_x
  have Dp := hS.di dM_p
  have Dn := hS.di dM_n
  have ec : i' c = i1 c := hi c (Ne.symm Dx.1) (Ne.symm Dp.1) (Ne.symm Dn.1)
  have er : i' rd = i rd := C rd (Ne.symm Dx.2.1) (Ne.symm Dp.2.1) (Ne.symm Dn.2.1) (k_ne hS.krd hS.kc (by decide)) (fun q hq => hS.an (by decide) hq hS.krd (by decide)) (fun q hq => hS.an (by omega) hq hS.krd (by decide))
  have et : i' tx = i tx := C tx (Ne.symm Dx.2.2.1) (Ne.symm Dp.2.2.1) (Ne.symm Dn.2.2.1) (k_ne hS.ktx hS.kc (by decide)) (fun q hq => hS.an (by decide) hq hS.ktx (by decide)) (fun q hq => hS.an (by omega) hq hS.ktx (by decide))
  have ef : i' sf = i sf := C sf (Ne.symm Dx.2.2.2.1) (Ne.symm Dp.2.2.2.1) (Ne.symm Dn.2.2.2.1) (k_ne hS.ksf hS.kc (by decide)) (fun q hq => hS.an (by decide) hq hS.ksf (by decide)) (fun q hq => hS.an (by omega) hq hS.ksf (by decide))
  have ebb : i' sb = i sb := C sb (Ne.symm Dx.2.2.2.2.1) (Ne.symm Dp.2.2.2.2.1) (Ne.symm Dn.2.2.2.2.1) (k_ne hS.ksb hS.kc (by decide)) (fun q hq => hS.an (by decide) hq hS.ksb (by decide)) (fun q hq => hS.an (by omega) hq hS.ksb (by decide))
  have eg : i' (gR g sb 0) = i (gR g sb 0) := C _ (Ne.symm Dx.2.2.2.2.2.1) (Ne.symm Dp.2.2.2.2.2.1) (Ne.symm Dn.2.2.2.2.2.1) (k_ne f2.2.2.2.1 hS.kc (by decide)) (fun q hq => hS.an (by decide) hq f2.2.2.2.1 (by decide)) (fun q hq => hS.an (by omega) hq f2.2.2.2.1 (by decide))
  have eA1 : ∀ m q, m < 11 → q < 30 → i' (A m q) = i1 (A m q) := fun m q hm hq => hi _ (Ne.symm (Dx.2.2.2.2.2.2 m q hm hq)) (Ne.symm (Dp.2.2.2.2.2.2 m q hm hq)) (Ne.symm (Dn.2.2.2.2.2.2 m q hm hq))
  have eA : ∀ m q, m < 11 → m ≠ 0 → m ≠ 3 + u → q < 30 → i' (A m q) = i (A m q) := fun m q hm h0 hu hq => (eA1 m q hm hq).trans (q6 _ (hS.an hm hq hS.kc (by decide)) (fun q2 hq2 => hS.y.ne hm (by decide) h0 hq hq2) (fun q2 hq2 => hS.y.ne hm (by omega) hu hq hq2))
  have H0 : zH i' (A 0) N' := q1.ou (fun q hq => eA1 0 q (by decide) hq)
  have H3 : zH i' (A (3 + u)) (i n) := q2.ou (fun q hq => eA1 _ q (by omega) hq)
  refine ⟨⟨by rw [hn]; exact q1.1, by rw [hn]; exact H0, fun m hm => ?_⟩, ⟨by rw [ec]; exact q3, by split <;> omega, by rw [ec]; exact q4, by split <;> omega, h29, fun k hk => ?_⟩, fun q hq => ?_, ⟨by rw [ec, q5 9 (by decide) (by decide), hxx 32 (by decide) (by decide)]; exact d1, by rw [ec, q5 10 (by decide) (by decide), hxx 33 (by decide) (by decide)]; exact d2⟩, ⟨by rw [er]; exact e1, by rw [hxx 5 (by decide) (by decide)]; exact e2, e3, by rw [et]; exact e4, by rw [eb]; exact e5, by rw [et, eb]; exact e6⟩, by rw [hj]; exact f1, f2.num ebb eg, ?_⟩
  · by_cases h0 : m = 0
    · rw [h0]; exact H0.no
    · by_cases hu : m = 3 + u
      · rw [hu]; exact H3.no
      · exact fun z hz => by rw [eA m _ hm h0 hu (by omega)]; exact a3 m hm z hz
  · rw [hp, M p dM_p, M n dM_n]
    match k, hk with
    | 0, hk =>
      have e : 3 + ((if u = 5 then 0 else u + 1) + 5 - 0) % 6 = 3 + u := by split <;> omega
      rw [e]
      exact H3.ext (fun a ha => sRem_0 b4 ha)
    | k + 1, hk =>
      have hk6 : k + 1 < 6 := by split at hk <;> omega
      have e : 3 + ((if u = 5 then 0 else u + 1) + 5 - (k + 1)) % 6 = 3 + (u + 5 - k) % 6 := by split <;> omega
      have hkw : k < w := by split at hk <;> omega
      rw [e]
      exact ((b6 k hkw).ou (fun q hq => eA _ q (by omega) (by omega) (by omega) hq)).ext (fun a ha => sRem_s b4 ha hk)
  · obtain ⟨f, r1, r2, r3, r4⟩ := c1 q hq
    refine ⟨f, r1, by rw [ef]; exact r2, by rw [hxx 31 (by decide) (by decide)]; exact r3, fun hf => ?_⟩
    rw [es]
    exact (r4 hf).ou (fun q2 hq2 => eA _ q2 (by omega) (by omega) (by omega) hq2)
  · obtain ⟨l1, l2, l3⟩ := f3
    exact ⟨by rw [hxx 35 (by decide) (by decide)]; exact l1, l2, by rw [eo]; exact l3⟩
end
section
variable {g : Sh} {i : Ni} {j j' : Nj} {c rd tx ur sl sf sb : Nat} {A : Nat → Nat → Nat} {x n d b p s o ol u w L : Nat} {O : List Int32}
theorem iSh.jx (h : iSh g c rd tx ur sl sf sb A x n d b p s o ol) : x ≠ ol := k_ne h.2.1.1 h.2.2.2.1.1 (by decide)
theorem iNu.ask0 {v : Int32} (hS : iSh g c rd tx ur sl sf sb A x n d b p s o ol) (h : iNu g i j c rd tx sf sb A x n b p s o u w L O) (hj : j' x = j x) : iNu g (wA i x (upd (i x) 0 v)) j' c rd tx sf sb A x n b p s o u w L O :=
  h.ask hS (fun r h1 _ _ => wA_n h1) (fun m hm => by rw [wA_s, pk_un hm]) (fun z hz => by
    rw [wA_n (Ne.symm ((hS.di dM_x).2.2.2.2.2.2 1 _ (by decide) (by omega)))]
    exact h.1.2.2 1 (by decide) z hz) hj
end
/-- on to the next call of the script -/
def lawN (E : Ev) (Z : Fx → State → Prop) (X : Fx) (CU SU q bb c rd tx ur sl sf sb : Nat) (A : Nat → Nat → Nat) (x n d b p s o ol : Nat) : Prop :=
  ∀ (g' : Sh) (i' : Ni) (j' : Nj) (cu' su' : Nat) (z5 z6 z7 z8 : Value), cu' ≤ CU + 14 → su' ≤ SU + 1046 → iInv g' i' j' c rd tx ur sl sf sb A x n d b p s o ol → zR E mL_law Z X 3557 [.ref (bb + 1), .ref c, .ref x, .ref ol, .int (nI q), z5, z6, z7, z8] [] g' i' j' cu' su'

