/-! ===== OTHER STEPS OF WHAT THE LAW KEEPS ===== -/
theorem oc_of {A : Prop} {dA : Decidable A} {e e2 e3 : Nat} {v : Value} {K : Kp} {g : Sh} {i : Ni} {j : Nj} (h : K (oc3 A True True e e2 e3 v) g i j) : (¬ A → K (.inr e) g i j) ∧ (A → K (.inl (some v)) g i j) := by
  constructor
  · intro a; rw [oc3, if_pos a] at h; exact h
  · intro a; rw [oc3_v a trivial trivial] at h; exact h
/-! bytes -/
theorem sByt_in (v : Int32) (w : Nat) : zIn (sByt v w) (-128) 127 := by
  rw [sByt, zIn, Int8.toInt_toInt32]
  have h1 := Int8.le_toInt ((v >>> (nI w &&& 31)).toInt8.toInt32).toInt8
  have h2 := Int8.toInt_lt ((v >>> (nI w &&& 31)).toInt8.toInt32).toInt8
  constructor <;> omega
theorem zByt.up {P : Nat → Int32} {k : Nat} {v : Int32} (h : zByt P) (hv : zIn v (-128) 127) : zByt (upd P k v) := fun q => by
  by_cases e : q = k
  · rw [e, pk_us]; exact hv
  · rw [pk_un e]; exact h q
theorem zByt.store {P : Nat → Int32} {f : Nat} {v : Int32} (h : zByt P) : zByt (sStore P f v) := (((h.up (sByt_in _ _)).up (sByt_in _ _)).up (sByt_in _ _)).up (sByt_in _ _)
theorem zByt.app {P : Nat → Int32} {f : Nat} {a0 a1 a2 a3 a4 : Int32} (h : zByt P) : zByt (sApp P f a0 a1 a2 a3 a4) := h.store.store.store.store.store
theorem upd_ag {P Q : Nat → Int32} {k f : Nat} {v : Int32} (e : ∀ q, q < f → P q = Q q) : ∀ q, q < f → upd P k v q = upd Q k v q := fun q hq => by
  by_cases h : q = k
  · rw [h, pk_us, pk_us]
  · rw [pk_un h, pk_un h]; exact e q hq
theorem upd_ag1 {P Q : Nat → Int32} {f : Nat} {v : Int32} (e : ∀ q, q < f → P q = Q q) : ∀ q, q < f + 1 → upd P f v q = upd Q f v q := fun q hq => by
  by_cases h : q = f
  · rw [h, pk_us, pk_us]
  · rw [pk_un h, pk_un h]; exact e q (by omega)
theorem store_ag {P Q : Nat → Int32} {f : Nat} {v : Int32} (e : ∀ q, q < f → P q = Q q) : ∀ q, q < f + 4 → sStore P f v q = sStore Q f v q := upd_ag1 (upd_ag1 (upd_ag1 (upd_ag1 e)))
theorem app_ag {P Q : Nat → Int32} {f : Nat} {a0 a1 a2 a3 a4 : Int32} (e : ∀ q, q < f → P q = Q q) : ∀ q, q < f + 20 → sApp P f a0 a1 a2 a3 a4 q = sApp Q f a0 a1 a2 a3 a4 q := store_ag (store_ag (store_ag (store_ag (store_ag e))))
section
variable {g : Sh} {i i1 i' : Ni} {j j' : Nj} {c rd tx ur sl sf sb : Nat} {A : Nat → Nat → Nat} {x n d b p s o ol u w L : Nat} {O : List Int32}
/-- the memory changed only in the two texts and the fields that go with them -/
theorem iNu.txt (hS : iSh g c rd tx ur sl sf sb A x n d b p s o ol) (h : iNu g i j c rd tx sf sb A x n b p s o u w L O) (hi : ∀ r, r ≠ x → r ≠ b → r ≠ rd → r ≠ tx → i' r = i r) (hx : ∀ m, m ≠ 0 → m ≠ 5 → i' x m = i x m) (hj : j' x = j x) {L2 : Nat} (hT : iTxt i' rd tx x b L2) : iNu g i' j' c rd tx sf sb A x n b p s o u w L2 O := by
  obtain ⟨⟨a1, a2, a3⟩, ⟨b1, b2, b3, b4, b5, b6⟩, c1, ⟨d1, d2⟩, -, f1, f2, f3⟩ := h
  have hW := hS.ww
  have w1 := hW.1
  have w8 := hW.2.2.2.2.2.2.2.1.1
  have wb := hW.2.2.2.2.2.2.2.2.2.1.1
  have wp := hW.2.2.2.2.2.2.2.2.2.2.1.1
  have ws := hW.2.2.2.2.2.2.2.2.2.2.2.1.1
  have wo := hW.2.2.2.2.2.2.2.2.2.2.2.2.1.1
  have M : ∀ r, dM x n d b p s o r → gT g r = 11 → i' r = i r := fun r hr h1 => hi r (k_ne h1 w1 (by decide)) (k_ne h1 wb (by decide)) (hS.di hr).2.1 (hS.di hr).2.2.1
  have en : i' n = i n := M n dM_n w8
  have ep : i' p = i p := M p dM_p wp
  have es : i' s = i s := M s dM_s ws
  have eo : i' o = i o := M o dM_o wo
  have ec : i' c = i c := hi c (Ne.symm (hS.di dM_x).1) (Ne.symm (hS.di dM_b).1) (k_ne hS.kc hS.krd (by decide)) (k_ne hS.kc hS.ktx (by decide))
  have ef : i' sf = i sf := hi sf (Ne.symm (hS.di dM_x).2.2.2.1) (Ne.symm (hS.di dM_b).2.2.2.1) (k_ne hS.ksf hS.krd (by decide)) (k_ne hS.ksf hS.ktx (by decide))
  have ebb : i' sb = i sb := hi sb (Ne.symm (hS.di dM_x).2.2.2.2.1) (Ne.symm (hS.di dM_b).2.2.2.2.1) (k_ne hS.ksb hS.krd (by decide)) (k_ne hS.ksb hS.ktx (by decide))
  have eg : i' (gR g sb 0) = i (gR g sb 0) := hi _ (Ne.symm (hS.di dM_x).2.2.2.2.2.1) (Ne.symm (hS.di dM_b).2.2.2.2.2.1) (k_ne f2.2.2.2.1 hS.krd (by decide)) (Ne.symm hS.2.2.2.2.1)
  have eA : ∀ m q, m < 11 → q < 30 → i' (A m q) = i (A m q) := fun m q hm hq => hi _ (Ne.symm ((hS.di dM_x).2.2.2.2.2.2 m q hm hq)) (Ne.symm ((hS.di dM_b).2.2.2.2.2.2 m q hm hq)) (hS.an hm hq hS.krd (by decide)) (hS.an hm hq hS.ktx (by decide))
  refine ⟨⟨by rw [en]; exact a1, by rw [en]; exact a2.ou (fun q hq => eA 0 q (by decide) hq), fun m hm z hz => by rw [eA m _ hm (by omega)]; exact a3 m hm z hz⟩, ⟨by rw [ec]; exact b1, b2, by rw [ec]; exact b3, b4, by rw [hx 29 (by decide) (by decide)]; exact b5, fun k hk => ?_⟩, fun q hq => ?_, ⟨by rw [ec, hx 32 (by decide) (by decide)]; exact d1, by rw [ec, hx 33 (by decide) (by decide)]; exact d2⟩, hT, by rw [hj]; exact f1, f2.num ebb eg, ?_⟩
  · rw [ep]
    exact (b6 k hk).ou (fun q hq => eA _ q (by omega) hq)
  · obtain ⟨f, q1, q2, q3, q4⟩ := c1 q hq
    refine ⟨f, q1, by rw [ef]; exact q2, by rw [hx 31 (by decide) (by decide)]; exact q3, fun hf => ?_⟩
    rw [es]
    exact (q4 hf).ou (fun q2 hq2 => eA _ q2 (by omega) hq2)
  · obtain ⟨l1, l2, l3⟩ := f3
    exact ⟨by rw [hx 35 (by decide) (by decide)]; exact l1, l2, by rw [eo]; exact l3⟩
/-- an undoing -/
theorem iNu.undo {N2 : Nat → Int32} (hS : iSh g c rd tx ur sl sf sb A x n d b p s o ol) (h : iNu g i j c rd tx sf sb A x n b p s o u w L O) (hw0 : w ≠ 0) (h1 : zH i1 (A 0) N2) (h2 : i1 c 7 = nI (if u = 0 then 5 else u - 1)) (h3 : i1 c 8 = nI (w - 1)) (h4 : ∀ f, f ≠ 7 → f ≠ 8 → i1 c f = i c f) (h5 : ∀ r, r ≠ c → (∀ q, q < 30 → r ≠ A 0 q) → i1 r = i r)
    (hN2 : N2 = fun a => i p (210 * (w - 1) + a)) (hx : ∀ m, m ≠ 0 → m ≠ 29 → i' x m = i1 x m) (h29 : i' x 29 = nI (w - 1)) (hn : i' n = fun a => i1 p (210 * (w - 1) + a)) (hi : ∀ r, r ≠ x → r ≠ n → i' r = i1 r) (hj : j' x = j x) :
    iNu g i' j' c rd tx sf sb A x n b p s o (if u = 0 then 5 else u - 1) (w - 1) L O := by
  obtain ⟨⟨a1, a2, a3⟩, ⟨b1, b2, b3, b4, b5, b6⟩, c1, ⟨d1, d2⟩, ⟨e1, e2, e3, e4, e5, e6⟩, f1, f2, f3⟩ := h
  have hW := hS.ww
  have w1 := hW.1
  have w8 := hW.2.2.2.2.2.2.2.1.1
  have wb := hW.2.2.2.2.2.2.2.2.2.1.1
  have wp := hW.2.2.2.2.2.2.2.2.2.2.1.1
  have ws := hW.2.2.2.2.2.2.2.2.2.2.2.1.1
  have wo := hW.2.2.2.2.2.2.2.2.2.2.2.2.1.1
  have np := hW.2.2.2.2.2.2.2.2.2.2.2.2.2.2.1
  have ns := hW.2.2.2.2.2.2.2.2.2.2.2.2.2.2.2.1
  have no := hW.2.2.2.2.2.2.2.2.2.2.2.2.2.2.2.2.1
  have M : ∀ r, dM x n d b p s o r → i1 r = i r := fun r hr => h5 r (hS.di hr).1 (fun q hq => (hS.di hr).2.2.2.2.2.2 0 q (by decide) hq)
  have C : ∀ r, r ≠ x → r ≠ n → r ≠ c → (∀ q, q < 30 → A 0 q ≠ r) → i' r = i r := fun r k1 k2 k3 k4 => (hi r k1 k2).trans (h5 r k3 (fun q hq => Ne.symm (k4 q hq)))
  have eb : i' b = i b := (hi b (k_ne wb w1 (by decide)) (k_ne wb w8 (by decide))).trans (M b dM_b)
  have ep : i' p = i p := (hi p (k_ne wp w1 (by decide)) (Ne.symm np)).trans (M p dM_p)
  have es : i' s = i s := (hi s (k_ne ws w1 (by decide)) (Ne.symm ns)).trans (M s dM_s)
  have eo : i' o = i o := (hi o (k_ne wo w1 (by decide)) (Ne.symm no)).trans (M o dM_o)
  have hxx : ∀ m, m ≠ 0 → m ≠ 29 → i' x m = i x m := fun m k1 k2 => (hx m k1 k2).trans (congrFun (M x dM_x) m)
  have Dx := hS.di dM_x
  have Dn := hS.di dM_n
  have ec : i' c = i1 c := hi c (Ne.symm Dx.1) (Ne.symm Dn.1)
  have er : i' rd = i rd := C rd (Ne.symm Dx.2.1) (Ne.symm Dn.2.1) (k_ne hS.krd hS.kc (by decide)) (fun q hq => hS.an (by decide) hq hS.krd (by decide))
  have et : i' tx = i tx := C tx (Ne.symm Dx.2.2.1) (Ne.symm Dn.2.2.1) (k_ne hS.ktx hS.kc (by decide)) (fun q hq => hS.an (by decide) hq hS.ktx (by decide))
  have ef : i' sf = i sf := C sf (Ne.symm Dx.2.2.2.1) (Ne.symm Dn.2.2.2.1) (k_ne hS.ksf hS.kc (by decide)) (fun q hq => hS.an (by decide) hq hS.ksf (by decide))
  have ebb : i' sb = i sb := C sb (Ne.symm Dx.2.2.2.2.1) (Ne.symm Dn.2.2.2.2.1) (k_ne hS.ksb hS.kc (by decide)) (fun q hq => hS.an (by decide) hq hS.ksb (by decide))
  have eg : i' (gR g sb 0) = i (gR g sb 0) := C _ (Ne.symm Dx.2.2.2.2.2.1) (Ne.symm Dn.2.2.2.2.2.1) (k_ne f2.2.2.2.1 hS.kc (by decide)) (fun q hq => hS.an (by decide) hq f2.2.2.2.1 (by decide))
  have eA1 : ∀ m q, m < 11 → q < 30 → i' (A m q) = i1 (A m q) := fun m q hm hq => hi _ (Ne.symm (Dx.2.2.2.2.2.2 m q hm hq)) (Ne.symm (Dn.2.2.2.2.2.2 m q hm hq))
  have eA : ∀ m q, m < 11 → m ≠ 0 → q < 30 → i' (A m q) = i (A m q) := fun m q hm h0 hq => (eA1 m q hm hq).trans (h5 _ (hS.an hm hq hS.kc (by decide)) (fun q2 hq2 => hS.y.ne hm (by decide) h0 hq hq2))
  have H0 : zH i' (A 0) N2 := h1.ou (fun q hq => eA1 0 q (by decide) hq)
  have en : i' n = N2 := by rw [hn, M p dM_p, hN2]
  refine ⟨⟨by rw [en]; exact h1.1, by rw [en]; exact H0, fun m hm => ?_⟩, ⟨by rw [ec]; exact h2, by split <;> omega, by rw [ec]; exact h3, by omega, h29, fun k hk => ?_⟩, fun q hq => ?_, ⟨by rw [ec, h4 9 (by decide) (by decide), hxx 32 (by decide) (by decide)]; exact d1, by rw [ec, h4 10 (by decide) (by decide), hxx 33 (by decide) (by decide)]; exact d2⟩, ⟨by rw [er]; exact e1, by rw [hxx 5 (by decide) (by decide)]; exact e2, e3, by rw [et]; exact e4, by rw [eb]; exact e5, by rw [et, eb]; exact e6⟩, by rw [hj]; exact f1, f2.num ebb eg, ?_⟩
  · by_cases h0 : m = 0
    · rw [h0]; exact H0.no
    · exact fun z hz => by rw [eA m _ hm h0 (by omega)]; exact a3 m hm z hz
  · have e : 3 + ((if u = 0 then 5 else u - 1) + 5 - k) % 6 = 3 + (u + 5 - (k + 1)) % 6 := by split <;> omega
    have e2 : (fun a => i' p (210 * (w - 1 - 1 - k) + a)) = fun a => i p (210 * (w - 1 - (k + 1)) + a) := by
      funext a
      rw [ep, show w - 1 - 1 - k = w - 1 - (k + 1) by omega]
    rw [e, e2]
    exact (b6 (k + 1) (by omega)).ou (fun q hq => eA _ q (by omega) (by omega) hq)
  · obtain ⟨f, r1, r2, r3, r4⟩ := c1 q hq
    refine ⟨f, r1, by rw [ef]; exact r2, by rw [hxx 31 (by decide) (by decide)]; exact r3, fun hf => ?_⟩
    rw [es]
    exact (r4 hf).ou (fun q2 hq2 => eA _ q2 (by omega) (by omega) hq2)
  · obtain ⟨l1, l2, l3⟩ := f3
    exact ⟨by rw [hxx 35 (by decide) (by decide)]; exact l1, l2, by rw [eo]; exact l3⟩
end

