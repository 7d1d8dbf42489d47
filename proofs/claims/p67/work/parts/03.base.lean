/-! ===== THE BASE: a typed memory over the machine's heap. References are numbers: 0 is null, r + 1 is the cell at r. ===== -/
abbrev Sh : Type := (Nat → Nat) × (Nat → Nat) × (Nat → Nat → Nat)
abbrev Ni : Type := Nat → Nat → Int32
abbrev Nj : Type := Nat → Nat → Int64
abbrev Rs : Type := Option Value ⊕ Nat
abbrev Kp : Type := Rs → Sh → Ni → Nj → Prop
/-- kind, length and references of what lies at r -/
def gT (g : Sh) (r : Nat) : Nat := g.1 r
def gL (g : Sh) (r : Nat) : Nat := g.2.1 r
def gR (g : Sh) (r k : Nat) : Nat := g.2.2 r k
def zrf (r : Nat) : Option Nat := match r with
  | 0 => none
  | n + 1 => some n
def cv (v : Value) : Value := match v with
  | .ref r => va_rf (zrf r)
  | w => w
def cvs (l : List Value) : List Value := l.map cv
/-- nothing known -/
abbrev zJ : Value := .retAddr 0
def zcls : List vw_C := [(RX0, TX0, 13), (RX1, TX1, 8), (RX2, TX2, 17), (RX3, TX3, 11), (RJ0, TJ0, 4), (RJ4, TJ4, 4)]
def zcl (c : Nat) : vw_C := match c with
  | 0 => (RX0, TX0, 13)
  | 1 => (RX1, TX1, 8)
  | 2 => (RX2, TX2, 17)
  | 3 => (RX3, TX3, 11)
  | 4 => (RJ0, TJ0, 4)
  | _ => (RJ4, TJ4, 4)
def zty (c k : Nat) : FieldType := match c with
  | 0 => tyX0 k
  | 1 => tyX1 k
  | 2 => tyX2 k
  | 3 => tyX3 k
  | 4 => tyJ0 k
  | _ => tyJ4 k
def zar (t : Nat) : FieldType := match t with
  | 0 => .int
  | 1 => .byte
  | 2 => .boolean
  | 3 => .object RJ0
  | 4 => .object RX2
  | _ => .object RX0
theorem zcl_at {c : Nat} (h : c < 6) : zcls[c]? = some (zcl c) := by
  rcases (show c = 0 ∨ c = 1 ∨ c = 2 ∨ c = 3 ∨ c = 4 ∨ c = 5 by omega) with rfl | rfl | rfl | rfl | rfl | rfl <;> rfl
theorem zty_ok {c k : Nat} (h : c < 6) (hk : k < (zcl c).2.2) : parseFieldDescriptor ((zcl c).2.1 k).2.2.1 = some (zty c k) := by
  rcases (show c = 0 ∨ c = 1 ∨ c = 2 ∨ c = 3 ∨ c = 4 ∨ c = 5 by omega) with rfl | rfl | rfl | rfl | rfl | rfl
  · exact tyX0_ok k hk
  · exact tyX1_ok k hk
  · exact tyX2_ok k hk
  · exact tyX3_ok k hk
  · exact tyJ0_ok k hk
  · exact tyJ4_ok k hk
theorem znm_ok {c : Nat} (h : c < 6) : ∀ a, a < (zcl c).2.2 → ∀ b, b < (zcl c).2.2 → a ≠ b → ((zcl c).2.1 a).2.1 ≠ ((zcl c).2.1 b).2.1 := by
  rcases (show c = 0 ∨ c = 1 ∨ c = 2 ∨ c = 3 ∨ c = 4 ∨ c = 5 by omega) with rfl | rfl | rfl | rfl | rfl | rfl
  · exact nmX0
  · exact nmX1
  · exact nmX2
  · exact nmX3
  · exact nmJ0
  · exact nmJ4
/-- the launch, the classes' numbers, their slots, the arrays' classes, where the heap of the law begins, the String constants, their bytes, the arrays of statics -/
abbrev Ev : Type := Launch × (Nat → ClassId) × (Nat → Nat → Nat) × (Nat → ClassId) × Nat × (Nat → Nat) × (Nat → Nat) × (Nat → Nat) × (Nat → Int32)
def eL (E : Ev) : Launch := E.1
def eC (E : Ev) : Nat → ClassId := E.2.1
def eI (E : Ev) : Nat → Nat → Nat := E.2.2.1
def eA (E : Ev) : Nat → ClassId := E.2.2.2.1
def eB (E : Ev) : Nat := E.2.2.2.2.1
def eK (E : Ev) : Nat → Nat := E.2.2.2.2.2.1
def eV (E : Ev) : Nat → Nat := E.2.2.2.2.2.2.1
def eS (E : Ev) : Nat → Nat := E.2.2.2.2.2.2.2.1
/-- the script: eS E 5 numbers at eS E 4 -/
def eX (E : Ev) : Nat → Int32 := E.2.2.2.2.2.2.2.2
def zA (E : Ev) : Nat → Prop := fun q => eB E ≤ q
def zts (E : Ev) : List (ClassId × FieldType) := [(eA E 0, zar 0), (eA E 1, zar 1), (eA E 2, zar 2), (eA E 3, zar 3), (eA E 4, zar 4), (eA E 5, zar 5)]
theorem zts_at (E : Ev) {t : Nat} (h : t < 6) : (zts E)[t]? = some (eA E t, zar t) := by
  rcases (show t = 0 ∨ t = 1 ∨ t = 2 ∨ t = 3 ∨ t = 4 ∨ t = 5 by omega) with rfl | rfl | rfl | rfl | rfl | rfl <;> rfl
/-- what a field of this type holds -/
def zV (ty : FieldType) (g : Sh) (i : Ni) (j : Nj) (r k : Nat) : Value := match ty with
  | .long => .long (j r k)
  | .array _ => va_rf (zrf (gR g r k))
  | .object _ => va_rf (zrf (gR g r k))
  | _ => .int (i r k)
def zct (t : Nat) (g : Sh) (i : Ni) (j : Nj) (r : Nat) : (Nat → Int32) ⊕ (Nat → Int64) ⊕ (Nat → UInt32) ⊕ (Nat → UInt64) ⊕ (Nat → Option Nat) := match t with
  | 0 => .inl (i r)
  | 1 => .inl (i r)
  | 2 => .inl (i r)
  | _ => .inr (.inr (.inr (.inr (fun k => zrf (gR g r k)))))
/-- the heap holds the memory -/
def zRep (E : Ev) (g : Sh) (i : Ni) (j : Nj) (H : Heap) : Prop :=
  (∀ a c : Nat, gT g (a + 1) = c + 1 → c < 10 → eB E ≤ a ∧ c < 6 ∧ t_OB a (eC E c) (zcl c).2.2 (eI E c) H (fun k => zV (zty c k) g i j (a + 1) k)) ∧
  (∀ a t : Nat, gT g (a + 1) = t + 11 → eB E ≤ a ∧ t < 6 ∧ H[a]? = some (vp_cell (eA E t) (gL g (a + 1), zct t g i j (a + 1)))) ∧ gT g 0 = 0
theorem zRep.lt {E : Ev} {g : Sh} {i : Ni} {j : Nj} {H : Heap} (h : zRep E g i j H) {a : Nat} (ht : gT g (a + 1) ≠ 0) : a < H.size := by
  by_cases hc : gT g (a + 1) ≤ 10
  · obtain ⟨-, -, cell, h1, -⟩ := h.1 a (gT g (a + 1) - 1) (by omega) (by omega)
    exact (Array.getElem?_eq_some_iff.mp h1).1
  · obtain ⟨-, -, h1⟩ := h.2.1 a (gT g (a + 1) - 11) (by omega)
    exact (Array.getElem?_eq_some_iff.mp h1).1
theorem zRep.kept {E : Ev} {g : Sh} {i : Ni} {j : Nj} {H H' : Heap} (h : zRep E g i j H) (hq : ∀ q : Nat, q < H.size → H'[q]? = H[q]?) : zRep E g i j H' := by
  refine ⟨fun a c h1 h2 => ?_, fun a t h1 => ?_, h.2.2⟩
  · obtain ⟨b1, b2, b3⟩ := h.1 a c h1 h2
    exact ⟨b1, b2, b3.kept (hq a (h.lt (by omega)))⟩
  · obtain ⟨b1, b2, b3⟩ := h.2.1 a t h1
    exact ⟨b1, b2, (hq a (h.lt (by omega))).trans b3⟩
/-- one cell has changed -/
theorem zRep.upd {E : Ev} {g g' : Sh} {i i' : Ni} {j j' : Nj} {H H' : Heap} {a : Nat} (h : zRep E g i j H) (hT : ∀ r, gT g' r = gT g r) (oq : ∀ q : Nat, q ≠ a → H'[q]? = H[q]?)
    (same : ∀ r, r ≠ a + 1 → i' r = i r ∧ j' r = j r ∧ gL g' r = gL g r ∧ ∀ k, gR g' r k = gR g r k)
    (hO : ∀ c, gT g (a + 1) = c + 1 → c < 10 → t_OB a (eC E c) (zcl c).2.2 (eI E c) H' (fun k => zV (zty c k) g' i' j' (a + 1) k))
    (hR : ∀ t, gT g (a + 1) = t + 11 → H'[a]? = some (vp_cell (eA E t) (gL g' (a + 1), zct t g' i' j' (a + 1)))) : zRep E g' i' j' H' := by
  refine ⟨fun b c h1 h2 => ?_, fun b t h1 => ?_, by rw [hT]; exact h.2.2⟩
  · rw [hT] at h1
    obtain ⟨b1, b2, b3⟩ := h.1 b c h1 h2
    refine ⟨b1, b2, ?_⟩
    by_cases hb : b = a
    · subst hb
      exact hO c h1 h2
    · obtain ⟨s1, s2, -, s4⟩ := same (b + 1) (by omega)
      refine (b3.kept (oq b hb)).to fun k _ => ?_
      cases hz : zty c k <;> simp [zV, s1, s2, s4]
  · rw [hT] at h1
    obtain ⟨b1, b2, b3⟩ := h.2.1 b t h1
    refine ⟨b1, b2, ?_⟩
    by_cases hb : b = a
    · subst hb
      exact hR t h1
    · obtain ⟨s1, s2, s3, s4⟩ := same (b + 1) (by omega)
      rw [oq b hb, b3, s3]
      congr 3
      rcases (show t = 0 ∨ t = 1 ∨ t = 2 ∨ t = 3 ∨ t = 4 ∨ t = 5 by omega) with rfl | rfl | rfl | rfl | rfl | rfl <;> simp [zct, s1, s2, s4]
/-- one cell is new -/
theorem zRep.grow {E : Ev} {g g' : Sh} {i i' : Ni} {j j' : Nj} {H H' : Heap} {tg : Nat} (h : zRep E g i j H) (hz : eB E ≤ H.size) (hn : gT g (H.size + 1) = 0) (hT : ∀ r, gT g' r = if r = H.size + 1 then tg else gT g r)
    (oq : ∀ q : Nat, q < H.size → H'[q]? = H[q]?)
    (same : ∀ r, r ≠ H.size + 1 → i' r = i r ∧ j' r = j r ∧ gL g' r = gL g r ∧ ∀ k, gR g' r k = gR g r k)
    (hO : ∀ c, tg = c + 1 → c < 10 → c < 6 ∧ t_OB H.size (eC E c) (zcl c).2.2 (eI E c) H' (fun k => zV (zty c k) g' i' j' (H.size + 1) k))
    (hR : ∀ t, tg = t + 11 → t < 6 ∧ H'[H.size]? = some (vp_cell (eA E t) (gL g' (H.size + 1), zct t g' i' j' (H.size + 1)))) : zRep E g' i' j' H' := by
  refine ⟨fun b c h1 h2 => ?_, fun b t h1 => ?_, by rw [hT, if_neg (by omega)]; exact h.2.2⟩
  · by_cases hb : b = H.size
    · subst hb
      rw [hT, if_pos rfl] at h1
      obtain ⟨h3, h4⟩ := hO c h1 h2
      exact ⟨hz, h3, h4⟩
    · rw [hT, if_neg (by omega)] at h1
      obtain ⟨b1, b2, b3⟩ := h.1 b c h1 h2
      refine ⟨b1, b2, ?_⟩
      obtain ⟨s1, s2, -, s4⟩ := same (b + 1) (by omega)
      refine (b3.kept (oq b (h.lt (by omega)))).to fun k _ => ?_
      cases hz : zty c k <;> simp [zV, s1, s2, s4]
  · by_cases hb : b = H.size
    · subst hb
      rw [hT, if_pos rfl] at h1
      obtain ⟨h3, h4⟩ := hR t h1
      exact ⟨hz, h3, h4⟩
    · rw [hT, if_neg (by omega)] at h1
      obtain ⟨b1, b2, b3⟩ := h.2.1 b t h1
      refine ⟨b1, b2, ?_⟩
      obtain ⟨s1, s2, s3, s4⟩ := same (b + 1) (by omega)
      rw [oq b (h.lt (by omega)), b3, s3]
      congr 3
      rcases (show t = 0 ∨ t = 1 ∨ t = 2 ∨ t = 3 ∨ t = 4 ∨ t = 5 by omega) with rfl | rfl | rfl | rfl | rfl | rfl <;> simp [zct, s1, s2, s4]
/-! changes of the memory -/
def wA (i : Ni) (r : Nat) (f : Nat → Int32) : Ni := fun q => if q = r then f else i q
def wB (j : Nj) (r : Nat) (f : Nat → Int64) : Nj := fun q => if q = r then f else j q
def wR (g : Sh) (r k v : Nat) : Sh := (g.1, g.2.1, fun q => if q = r then (fun n => if n = k then v else g.2.2 r n) else g.2.2 q)
def wN (g : Sh) (r t n : Nat) : Sh := (fun q => if q = r then t else g.1 q, fun q => if q = r then n else g.2.1 q, fun q => if q = r then (fun _ => 0) else g.2.2 q)
theorem wA_s {i : Ni} {r : Nat} {f : Nat → Int32} : wA i r f r = f := if_pos rfl
theorem wA_n {i : Ni} {r q : Nat} {f : Nat → Int32} (h : q ≠ r) : wA i r f q = i q := if_neg h
theorem wB_s {j : Nj} {r : Nat} {f : Nat → Int64} : wB j r f r = f := if_pos rfl
theorem wB_n {j : Nj} {r q : Nat} {f : Nat → Int64} (h : q ≠ r) : wB j r f q = j q := if_neg h
theorem wA_wA {i : Ni} {r : Nat} {f f' : Nat → Int32} : wA (wA i r f) r f' = wA i r f' := by
  funext q; by_cases h : q = r <;> simp [wA, h]
theorem wA_self {i : Ni} {r : Nat} : wA i r (i r) = i := by
  funext q; by_cases h : q = r <;> simp [wA, h]
theorem gT_wR {g : Sh} {r k v q : Nat} : gT (wR g r k v) q = gT g q := rfl
theorem gL_wR {g : Sh} {r k v q : Nat} : gL (wR g r k v) q = gL g q := rfl
theorem gR_wR {g : Sh} {r k v q n : Nat} : gR (wR g r k v) q n = if q = r then (if n = k then v else gR g r n) else gR g q n := by
  by_cases h : q = r
  · subst h; simp [gR, wR]
  · simp [gR, wR, h]
theorem gT_wN {g : Sh} {r t n q : Nat} : gT (wN g r t n) q = if q = r then t else gT g q := rfl
theorem gL_wN {g : Sh} {r t n q : Nat} : gL (wN g r t n) q = if q = r then n else gL g q := rfl
theorem gR_wN {g : Sh} {r t n q m : Nat} : gR (wN g r t n) q m = if q = r then 0 else gR g q m := by
  by_cases h : q = r <;> simp [gR, wN, h]
/-! exceptions, constants -/
def zexn (k : Nat) : String := match k with
  | 0 => "java/lang/IllegalStateException"
  | 1 => "java/lang/IllegalArgumentException"
  | 2 => "java/lang/IndexOutOfBoundsException"
  | _ => "java/util/NoSuchElementException"
/-- the String constants that the walk loads: the class, its entry, the text -/
def zstr : List (String × Nat × String) := [("ThermoscopeGallery", 15, "gallery 20 4;spirit wine 10;spirit oil 6;bath ice 0;bath boil 100;tube wine 20 2 300 5;tube oil 30 3 90 8;dip 0 ice;dip 1 boil;pass 40;mark 0;mark 1;dip 0 boil;pass 40;mark 0;lift 0;leak 1;thumb 1 3;pass 2;"), ("ThermoscopeGallery$SetupReader", 70, "gallery"), ("ThermoscopeGallery$SetupReader", 93, "spirit"), ("ThermoscopeGallery$SetupReader", 108, "bath"), ("ThermoscopeGallery$SetupReader", 116, "tube"), ("ThermoscopeGallery$SetupReader", 124, "leak"), ("ThermoscopeGallery$SetupReader", 130, "seal"), ("ThermoscopeGallery$SetupReader", 132, "dip"), ("ThermoscopeGallery$SetupReader", 137, "lift"), ("ThermoscopeGallery$SetupReader", 142, "mark"), ("ThermoscopeGallery$SetupReader", 147, "thumb"), ("ThermoscopeGallery$SetupReader", 152, "fill"), ("ThermoscopeGallery$SetupReader", 157, "erase"), ("ThermoscopeGallery$SetupReader", 162, "room"), ("ThermoscopeGallery$SetupReader", 166, "pass"), ("ThermoscopeGalleryLaw", 51, "gallery "), ("ThermoscopeGalleryLaw", 59, "-"), ("ThermoscopeGalleryLaw", 61, ""), ("ThermoscopeGalleryLaw", 69, " "), ("ThermoscopeGalleryLaw", 74, ";"), ("ThermoscopeGalleryLaw", 83, "spirit "), ("ThermoscopeGalleryLaw", 96, "bath "), ("ThermoscopeGalleryLaw", 104, " - "), ("ThermoscopeGalleryLaw", 109, "tube "), ("ThermoscopeGalleryLaw", 361, "wine"), ("ThermoscopeGalleryLaw", 363, "oil"), ("ThermoscopeGalleryLaw", 365, "tube"), ("ThermoscopeGalleryLaw", 367, "ice"), ("ThermoscopeGalleryLaw", 369, "b"), ("ThermoscopeGalleryLaw", 371, "mark"), ("ThermoscopeGalleryLaw", 372, "sun")]
def zbyt (s : String) : List Int32 := s.toList.map (fun c => Int32.ofNat c.toNat)
def zSt (E : Ev) (U : State) : Prop := ∀ (n : Nat) (q : String × Nat × String), zstr[n]? = some q →
  vk_R q.1 q.2.1 q.2.2 (eK E n) U ∧ va_O "java/lang/String" (eK E n) (zA E) U U.heap ∧ va_OF "java/lang/String" "coder" "B" (.int 0) (eK E n) (zA E) U U.heap ∧ va_OF "java/lang/String" "value" "[B" (.ref (eV E n)) (eK E n) (zA E) U U.heap ∧ va_T .byte (eV E n) (zbyt q.2.2).length (fun k => .int ((zbyt q.2.2).getD k 0)) (zA E) U U.heap
/-- the texts of the exceptions -/
def zmsg : List (String × Nat × String) := [("ThermoscopeGallery", 275, "there is no change to undo"), ("ThermoscopeGallery", 82, "the input buffer would hold more than 600 bytes"), ("ThermoscopeGallery", 92, "no such length"), ("ThermoscopeGallery", 309, "no such bath"), ("ThermoscopeGallery", 314, "no such spirit"), ("ThermoscopeGallery", 306, "no such tube"), ("ThermoscopeGallery", 320, "no such point"), ("ThermoscopeGallery", 318, "out of range"), ("ThermoscopeGallery", 253, "dipping is refused"), ("ThermoscopeGallery", 257, "marking is refused"), ("ThermoscopeGallery", 255, "the tube is in the room"), ("ThermoscopeGallery", 265, "the fill would be greater than 999"), ("ThermoscopeGallery", 322, "the tube has no scale")]
def zMs (U : State) : Prop := ∀ q ∈ zmsg, ∃ a, vk_R q.1 q.2.1 q.2.2 a U
def zcast : List (String × String) := [("java/lang/IllegalStateException", "java/lang/IllegalStateException"), ("java/lang/IllegalArgumentException", "java/lang/IllegalArgumentException"), ("java/lang/IndexOutOfBoundsException", "java/lang/IndexOutOfBoundsException"), ("java/util/NoSuchElementException", "java/util/NoSuchElementException"), ("[B", "java/lang/Cloneable")]
def zdecl : List MethodName := [⟨"java/lang/RuntimeException", "<init>", "(Ljava/lang/String;)V"⟩, ⟨"java/lang/Exception", "<init>", "(Ljava/lang/String;)V"⟩, ⟨"java/lang/Throwable", "<init>", "(Ljava/lang/String;)V"⟩]
def zncast : List (String × String) := [("java/lang/IllegalArgumentException", "java/lang/IllegalStateException"), ("java/lang/IndexOutOfBoundsException", "java/lang/IllegalStateException"), ("java/util/NoSuchElementException", "java/lang/IllegalStateException")]
/-- the private methods of a class that is above the object's: a word that a call does not keep by itself -/
def zpriv : List MethodName := [⟨"java/lang/AbstractStringBuilder", "ensureCapacityInternal", "(I)V"⟩, ⟨"java/lang/AbstractStringBuilder", "newCapacity", "(I)I"⟩, ⟨"java/lang/AbstractStringBuilder", "putStringAt", "(ILjava/lang/String;)V"⟩, ⟨"java/lang/AbstractStringBuilder", "inflateIfNeededFor", "(Ljava/lang/String;)V"⟩]
theorem va_Nw.warmP {x : MethodName} {s U : State} (hW : s.WarmedH U.vm) (hZ : va_Nw (.privateMethod x) s) : va_Nw (.privateMethod x) U := by
  have hal := hW.alike
  have e1 : U.methodNamed? x = s.methodNamed? x := by
    have h2 : U.methodNamed? = (s.setVm U.vm).methodNamed? := by funext z; rfl
    rw [h2, State.methodNamed?_setVm hal]
  have e2 : U.vm.method? = s.vm.method? := funext hal.method?
  simp only [va_Nw, Cond.before, Cond.holds, Cond.value] at hZ ⊢
  rw [e1, e2]; exact hZ
/-- the law's two rows of names -/
def zLw (E : Ev) (U : State) : Prop := va_Z RL "SPIRITS" "[Ljava/lang/String;" (.ref (eS E 2)) (zA E) U U.heap ∧ va_T (.object RJ0) (eS E 2) 3 (fun k => .ref (eK E (24 + k))) (zA E) U U.heap ∧
  va_Z RL "BATHS" "[Ljava/lang/String;" (.ref (eS E 3)) (zA E) U U.heap ∧ va_T (.object RJ0) (eS E 3) 4 (fun k => .ref (eK E (27 + k))) (zA E) U U.heap ∧ va_T .int (eS E 4) (eS E 5) (fun k => .int (eX E k)) (zA E) U U.heap ∧ eS E 5 ≤ 260
def zDig (E : Ev) (U : State) : Prop := va_Z "java/lang/String" "COMPACT_STRINGS" "Z" (.int 1) (zA E) U U.heap ∧ va_Zq "jdk/internal/util/Preconditions" "SIOOBE_FORMATTER" "Ljava/util/function/BiFunction;" (zA E) U U.heap ∧
  va_Z "java/lang/Integer" "DigitOnes" "[B" (.ref (eS E 0)) (zA E) U U.heap ∧ va_T .byte (eS E 0) 100 (fun k => .int (nI (48 + k % 10))) (zA E) U U.heap ∧
  va_Z "java/lang/Integer" "DigitTens" "[B" (.ref (eS E 1)) (zA E) U U.heap ∧ va_T .byte (eS E 1) 100 (fun k => .int (nI (48 + k / 10))) (zA E) U U.heap ∧ (∀ q ∈ zpriv, va_Nw (.privateMethod q) U) ∧ zLw E U
def zEnv (E : Ev) (U : State) : Prop :=
  (eL E).stackTraces = false ∧ va_K (eC E, eI E) zcls (zts E) U ∧ eB E ≤ U.heap.size ∧
  vx_Zq Bundle.tN "UNASSIGNED_STACK" Bundle.steD (zA E) U U.heap ∧ vx_Zq Bundle.tN "SUPPRESSED_SENTINEL" Bundle.listD (zA E) U U.heap ∧
  zSt E U ∧ zMs U ∧ (va_AO RX2 U ∧ va_AO RX0 U) ∧ (∀ q ∈ zcast, va_Nw (.castable q.1 q.2) U) ∧ (∀ q ∈ zncast, va_Nc q.1 q.2 U) ∧ zDig E U ∧ ∀ q ∈ zdecl, va_Nw (.declares q) U
theorem zEnv.moved {E : Ev} {s U : State} (h : zEnv E s) (hW : s.WarmedH U.vm) (hz : s.heap.size ≤ U.heap.size) (hq : ∀ q : Nat, q < s.heap.size → ¬ zA E q → U.heap[q]? = s.heap[q]?) : zEnv E U := by
  obtain ⟨h1, h2, h3, h4, h5, h6, h7, h7b, h8, h9, h10, h16⟩ := h
  obtain ⟨h10, h11, h12, h13, h14, h15, h17, h18, h19, h20, h21, h22, h23⟩ := h10
  have ha := hW.alike
  refine ⟨h1, va_K.moved ha h2, Nat.le_trans h3 hz, vx_Zq.moved ha (vx_Zq.kept h4 hq), vx_Zq.moved ha (vx_Zq.kept h5 hq), fun n q hn => ?_, fun q hn => ?_, ⟨va_AO.moved ha h7b.1, va_AO.moved ha h7b.2⟩, fun q hn => va_Nw.warmC hW (h8 q hn), fun q hn => va_Nc.moved ha (h9 q hn),
    ⟨va_Z.moved ha (va_Z.kept h10 hq), va_Zq.moved ha (va_Zq.kept h11 hq), va_Z.moved ha (va_Z.kept h12 hq), va_T.moved ha (va_T.kept h13 hq), va_Z.moved ha (va_Z.kept h14 hq), va_T.moved ha (va_T.kept h15 hq), fun q hn => va_Nw.warmP hW (h17 q hn), va_Z.moved ha (va_Z.kept h18 hq), va_T.moved ha (va_T.kept h19 hq), va_Z.moved ha (va_Z.kept h20 hq), va_T.moved ha (va_T.kept h21 hq), va_T.moved ha (va_T.kept h22 hq), h23⟩, fun q hn => va_Nw.warmD hW (h16 q hn)⟩
  · obtain ⟨q1, q2, q3, q4, q5⟩ := h6 n q hn
    exact ⟨q1.warm hW, va_O.moved ha (q2.kept hq), va_OF.moved ha (q3.kept hq), va_OF.moved ha (q4.kept hq), va_T.moved ha (q5.kept hq)⟩
  · obtain ⟨a, q1⟩ := h7 q hn
    exact ⟨a, q1.warm hW⟩
theorem zEnv.calling {E : Ev} {U : State} {g : JFrame} {mk : MethodId} {a : Array Value} (h : zEnv E U) : zEnv E (U.calling g mk a) :=
  zEnv.moved (s := U) (U := U.calling g mk a) h (State.WarmedH.refl U) (Nat.le_refl _) (fun _ _ _ => rfl)
/-! methods and contracts -/
/-- its name, its bytes, its locals, what it returns, its room, its table -/
abbrev Mt : Type := MethodName × ByteArray × Nat × Option FieldType × Room × List (Nat × Nat × Nat × Nat)
def mN (y : Mt) : MethodName := y.1
def mB (y : Mt) : ByteArray := y.2.1
def mL (y : Mt) : Nat := y.2.2.1
def mR (y : Mt) : Option FieldType := y.2.2.2.1
def mM (y : Mt) : Room := y.2.2.2.2.1
def mH (y : Mt) : List (Nat × Nat × Nat × Nat) := y.2.2.2.2.2
def lw_good : List Cond := lw_tbl.filter goodWord
def zcode (y : Mt) : Cond := match mH y with
  | [] => .code (mN y) (mB y) (mL y) (mR y)
  | q :: l => .codeWith (mN y) (mB y) (mL y) (mR y) (q :: l)
def zws (y : Mt) : List Cond := zcode y :: lw_good
def zQc (E : Ev) (K : Kp) : Array Value → State → Outcome → State → Prop := fun _ st o t => ∃ (v : Option Value) (g : Sh) (i : Ni) (j : Nj), o = .returned (v.map cv) ∧ zRep E g i j t.heap ∧ K (.inl v) g i j ∧ va_F (zA E) st t
def zXC (E : Ev) (K : Kp) : String → State → State → Prop := fun X st t => ∃ (ec : Nat) (g : Sh) (i : Ni) (j : Nj), zexn ec = X ∧ zRep E g i j t.heap ∧ K (.inr ec) g i j ∧ va_F (zA E) st t
def zPc (E : Ev) (as : List Value) (g : Sh) (i : Ni) (j : Nj) : Array Value → State → Prop := va_Pc (cvs as) (fun U => zEnv E U ∧ zRep E g i j U.heap)
/-- called with these arguments over this memory, y comes to an end of which K holds -/
def zCon (E : Ev) (y : Mt) (as : List Value) (g : Sh) (i : Ni) (j : Nj) (K : Kp) : Prop :=
  vx_Met (eL E) (mN y) (zws y) (mM y) (zPc E as g i j) (zQc E K) (zXC E K) (mM y).cells (mM y).slots (zA E)
/-- .. of a constructor -/
def zConI (E : Ev) (y : Mt) (as : List Value) (g : Sh) (i : Ni) (j : Nj) (K : Kp) : Prop :=
  Met (eL E) (mN y) (zws y) (mM y) (zPc E as g i j) (zQc E K) (mM y).cells (mM y).slots (zA E)
abbrev Fx : Type := Program × Env × Room × State × MethodId × Array Value × List Frame × Method × Code
def zCtx (E : Ev) (y : Mt) (X : Fx) : Prop := match X with
  | (p, _, R, s, m, args, _, meth, c) => p.tables.exec = Jvm.exec ∧ c.code = mB y ∧ meth.sig.returnType = mR y ∧ c.maxLocals = mL y ∧ s.vm.findClass (mN y).cls = some m.cls ∧ (∀ w ∈ lw_good, w.before args s = true) ∧ zEnv E s ∧ meth.locks = false ∧ R = mM y ∧ c.exceptionTable.toList = tableOf (mH y) ∧ meth.name = (mN y).name
def zlo (ls : Array Slot) (n : Nat) (lo : List Value) : Prop := ls.size = n ∧ lv_wf ls ∧ ∀ (k : Nat) (v : Value), lo[k]? = some v → v ≠ zJ → ls[k]? = some (.val (cv v))
/-- the walk of y, at pc, with these locals, this stack, this memory, so much made, comes to Z -/
def zR (E : Ev) (y : Mt) (Z : Fx → State → Prop) (X : Fx) (pc : Nat) (lo st : List Value) (g : Sh) (i : Ni) (j : Nj) (cu su : Nat) : Prop := match X with
  | (p, e, R, s, m, args, below, meth, c) => zCtx E y (p, e, R, s, m, args, below, meth, c) → ∀ (H : Heap) (locs : List Loc) (ls : Array Slot), zRep E g i j H → va_S (zA E) s.heap H locs → zlo ls (mL y) lo →
      W p (eL E) e R s m args below meth c H locs cu su (Z (p, e, R, s, m, args, below, meth, c)) (F0 m pc ls (cvs st))
/-- the end of a method -/
def zZ (E : Ev) (y : Mt) (Q : Kp) (X : Fx) : State → Prop := match X with
  | (_, _, _, s, _, args, below, _, _) => vx_MQ below (zQc E Q) (zXC E Q) args s (mM y).cells (mM y).slots (zA E)
def zZI (E : Ev) (y : Mt) (Q : Kp) (X : Fx) : State → Prop := match X with
  | (_, _, _, s, _, args, below, _, _) => MQ below (zQc E Q) args s (mM y).cells (mM y).slots (zA E)
/-- .. thrown out of it, at pc -/
def zT (E : Ev) (y : Mt) (Z : Fx → State → Prop) (X : Fx) (pc : Nat) (lo : List Value) (ec : Nat) (g : Sh) (i : Ni) (j : Nj) (cu su : Nat) : Prop := match X with
  | (p, e, R, s, m, args, below, meth, c) => zCtx E y (p, e, R, s, m, args, below, meth, c) → ∀ (H : Heap) (locs : List Loc) (ls : Array Slot) (q : Addr) (ce : Cell) (st : List Value), zRep E g i j H → va_S (zA E) s.heap H locs → zlo ls (mL y) lo → H[q]? = some ce → ce.vm = .none → s.vm.findClass (zexn ec) = some ce.cls →
      vx_W p (eL E) e R s m args below meth c H locs cu su (Z (p, e, R, s, m, args, below, meth, c)) (F0 m pc ls st) q
/-! the locals at the entry -/
def zin (as : List Value) : List Value := as.flatMap fun v => if v.category = 2 then [v, zJ] else [v]
theorem cv_cat (v : Value) : (cv v).category = v.category := by
  cases v with
  | ref r => cases r <;> rfl
  | _ => rfl
theorem zin_len (as : List Value) : (zin as).length = (lg_sl (cvs as)).length := by
  induction as with
  | nil => rfl
  | cons v l ih =>
    simp only [zin, cvs, lg_sl, List.flatMap_cons, List.map_cons, List.length_append, cv_cat] at ih ⊢
    rw [ih]
    split <;> rfl
theorem zin_at (as : List Value) : ∀ (k : Nat) (v : Value), (zin as)[k]? = some v → v ≠ zJ → (lg_sl (cvs as))[k]? = some (.val (cv v)) := by
  induction as with
  | nil => intro k v h; simp [zin] at h
  | cons a l ih =>
    intro k v h hv
    simp only [zin, cvs, lg_sl, List.flatMap_cons, List.map_cons, cv_cat] at ih h ⊢
    by_cases hc : a.category = 2
    · simp only [hc, if_true] at h ⊢
      match k, h with
      | 0, h => simp at h ⊢; rw [h]
      | 1, h => simp at h; exact absurd h.symm hv
      | k + 2, h => simp at h ⊢; exact ih k v h hv
    · simp only [hc, if_false] at h ⊢
      match k, h with
      | 0, h => simp at h ⊢; rw [h]
      | k + 1, h => simp at h ⊢; exact ih k v h hv
def zlo0 (as : List Value) (n : Nat) : List Value := zin as ++ List.replicate (n - (zin as).length) zJ
theorem zlo_entry {as : List Value} {n : Nat} (h : (zin as).length ≤ n) : zlo ((lg_sl (cvs as) ++ List.replicate (n - (lg_sl (cvs as)).length) Slot.unset).toArray) n (zlo0 as n) := by
  have h2 : (lg_sl (cvs as)).length ≤ n := by rw [← zin_len]; exact h
  obtain ⟨a1, a2, -⟩ := lv_entry (cvs as) h2
  refine ⟨a1, a2, fun k v hk hv => ?_⟩
  by_cases hl : k < (zin as).length
  · rw [zlo0, List.getElem?_append_left hl] at hk
    have := zin_at as k v hk hv
    rw [List.getElem?_toArray, List.getElem?_append_left (by rw [← zin_len]; exact hl)]
    exact this
  · rw [zlo0, List.getElem?_append_right (by omega)] at hk
    exact absurd (List.eq_of_mem_replicate (List.mem_of_getElem? hk)) hv
theorem zcon_of {E : Ev} {y : Mt} {as lo : List Value} {g : Sh} {i : Ni} {j : Nj} {Q : Kp} (hy : plainName (mN y).cls = true) (hH : mH y = []) (hn : Nat.ble (zin as).length (mL y) = true) (hlo : zlo0 as (mL y) = lo)
    (h : ∀ X : Fx, zR E y (zZ E y Q) X 0 lo [] g i j 0 0) : zCon E y as g i j Q := by
  have hc : zcode y = .code (mN y) (mB y) (mL y) (mR y) := by unfold zcode; rw [hH]
  refine vx_ofW (cc := mB y) (maxL := mL y) (ret := mR y) (ws' := lw_good) hy (by unfold zws; rw [hc]) ?_
  intro p e s m args below meth c s₁ B hml ht hv
  obtain ⟨rfl, hE, hP⟩ := hv
  have hts := atoms_spec (ws := zws y) B.pre
  have hin : meth.name = (mN y).name := (name_of_methodNamed B.named B.method).1
  rw [lg_entry_eq]
  subst hlo
  exact h (p, e, mM y, s, m, (cvs as).toArray, below, meth, c) ⟨B.exec, B.bytes, B.returns, hml, findClass_of_methodNamed B.named, fun w hw => hts w (List.mem_cons_of_mem _ hw), hE, B.notSynchronized, rfl, by
    rw [hH]
    exact List.eq_nil_iff_forall_not_mem.mpr ht, hin⟩ s.heap [] _ hP va_S.rf (zlo_entry (Nat.le_of_ble_eq_true hn))
theorem zcon_ofH {E : Ev} {y : Mt} {as lo : List Value} {g : Sh} {i : Ni} {j : Nj} {Q : Kp} {q : Nat × Nat × Nat × Nat} {qs : List (Nat × Nat × Nat × Nat)} (hy : plainName (mN y).cls = true) (hH : mH y = q :: qs) (hn : Nat.ble (zin as).length (mL y) = true) (hlo : zlo0 as (mL y) = lo)
    (h : ∀ X : Fx, zR E y (zZ E y Q) X 0 lo [] g i j 0 0) : zCon E y as g i j Q := by
  have hc : zcode y = .codeWith (mN y) (mB y) (mL y) (mR y) (q :: qs) := by unfold zcode; rw [hH]
  refine vx_ofWH (cc := mB y) (maxL := mL y) (ret := mR y) (hh := q :: qs) (ws' := lw_good) hy (by unfold zws; rw [hc]) ?_
  intro p e s m args below meth c s₁ B hml hv
  obtain ⟨rfl, hE, hP⟩ := hv
  have hts := atoms_spec (ws := zws y) B.pre
  have hin : meth.name = (mN y).name := (name_of_methodNamed B.named B.method).1
  have htb := vx_table (x := mN y) B (hts _ (by unfold zws; rw [hc]; exact List.mem_cons_self))
  rw [lg_entry_eq]
  subst hlo
  exact h (p, e, mM y, s, m, (cvs as).toArray, below, meth, c) ⟨B.exec, B.bytes, B.returns, hml, findClass_of_methodNamed B.named, fun w hw => hts w (List.mem_cons_of_mem _ hw), hE, B.notSynchronized, rfl, by
    rw [hH]
    exact htb, hin⟩ s.heap [] _ hP va_S.rf (zlo_entry (Nat.le_of_ble_eq_true hn))
theorem zconI_of {E : Ev} {y : Mt} {as lo : List Value} {g : Sh} {i : Ni} {j : Nj} {Q : Kp} (hy : plainName (mN y).cls = true) (hH : mH y = []) (hn : Nat.ble (zin as).length (mL y) = true) (hlo : zlo0 as (mL y) = lo)
    (h : ∀ X : Fx, zR E y (zZI E y Q) X 0 lo [] g i j 0 0) : zConI E y as g i j Q := by
  have hc : zcode y = .code (mN y) (mB y) (mL y) (mR y) := by unfold zcode; rw [hH]
  refine Met.ofW (cc := mB y) (maxL := mL y) (ret := mR y) (ws' := lw_good) hy (by unfold zws; rw [hc]) ?_
  intro p e s m args below meth c s₁ B hml hv
  obtain ⟨rfl, hE, hP⟩ := hv
  have hts := atoms_spec (ws := zws y) B.pre
  have hin : meth.name = (mN y).name := (name_of_methodNamed B.named B.method).1
  have ht : c.exceptionTable.toList = [] := by
    obtain ⟨meth9, c9, h1, h2, -, -, -, -, h7, -⟩ := Cond.code_spec B.named (hts _ (by unfold zws; rw [hc]; exact List.mem_cons_self))
    cases Option.some.inj (h1.symm.trans B.method)
    cases Option.some.inj (h2.symm.trans (Stand.of_body B).code)
    rw [Array.isEmpty_iff.mp h7]
  rw [lg_entry_eq]
  subst hlo
  exact h (p, e, mM y, s, m, (cvs as).toArray, below, meth, c) ⟨B.exec, B.bytes, B.returns, hml, findClass_of_methodNamed B.named, fun w hw => hts w (List.mem_cons_of_mem _ hw), hE, B.notSynchronized, rfl, by
    rw [hH, ht]
    rfl, hin⟩ s.heap [] _ hP va_S.rf (zlo_entry (Nat.le_of_ble_eq_true hn))
section RULES
variable {E : Ev} {y : Mt} {Z : Fx → State → Prop} {X : Fx} {pc : Nat} {lo st : List Value} {g : Sh} {i : Ni} {j : Nj} {cu su : Nat}
theorem r_iadd {a b : Int32} (d : decode (mB y) pc = .ok (.iadd, 1))  (kk : zR E y Z X (pc + 1) lo (.int (a + b) :: st) g i j cu su) : zR E y Z X pc lo (.int b :: .int a :: st) g i j cu su := by
  obtain ⟨p, e, R, s, m, args, below, meth, c⟩ := X
  intro C H locs ls hR hS hl
  exact lv_iadd C.1 C.2.1 d  (kk C H locs ls hR hS hl)
theorem r_isub {a b : Int32} (d : decode (mB y) pc = .ok (.isub, 1))  (kk : zR E y Z X (pc + 1) lo (.int (a - b) :: st) g i j cu su) : zR E y Z X pc lo (.int b :: .int a :: st) g i j cu su := by
  obtain ⟨p, e, R, s, m, args, below, meth, c⟩ := X
  intro C H locs ls hR hS hl
  exact lv_isub C.1 C.2.1 d  (kk C H locs ls hR hS hl)
theorem r_imul {a b : Int32} (d : decode (mB y) pc = .ok (.imul, 1))  (kk : zR E y Z X (pc + 1) lo (.int (a * b) :: st) g i j cu su) : zR E y Z X pc lo (.int b :: .int a :: st) g i j cu su := by
  obtain ⟨p, e, R, s, m, args, below, meth, c⟩ := X
  intro C H locs ls hR hS hl
  exact lv_imul C.1 C.2.1 d  (kk C H locs ls hR hS hl)
theorem r_iand {a b : Int32} (d : decode (mB y) pc = .ok (.iand, 1))  (kk : zR E y Z X (pc + 1) lo (.int (a &&& b) :: st) g i j cu su) : zR E y Z X pc lo (.int b :: .int a :: st) g i j cu su := by
  obtain ⟨p, e, R, s, m, args, below, meth, c⟩ := X
  intro C H locs ls hR hS hl
  exact lv_iand C.1 C.2.1 d  (kk C H locs ls hR hS hl)
theorem r_ior {a b : Int32} (d : decode (mB y) pc = .ok (.ior, 1))  (kk : zR E y Z X (pc + 1) lo (.int (a ||| b) :: st) g i j cu su) : zR E y Z X pc lo (.int b :: .int a :: st) g i j cu su := by
  obtain ⟨p, e, R, s, m, args, below, meth, c⟩ := X
  intro C H locs ls hR hS hl
  exact lv_ior C.1 C.2.1 d  (kk C H locs ls hR hS hl)
theorem r_ixor {a b : Int32} (d : decode (mB y) pc = .ok (.ixor, 1))  (kk : zR E y Z X (pc + 1) lo (.int (a ^^^ b) :: st) g i j cu su) : zR E y Z X pc lo (.int b :: .int a :: st) g i j cu su := by
  obtain ⟨p, e, R, s, m, args, below, meth, c⟩ := X
  intro C H locs ls hR hS hl
  exact lv_ixor C.1 C.2.1 d  (kk C H locs ls hR hS hl)
theorem r_ishl {a b : Int32} (d : decode (mB y) pc = .ok (.ishl, 1))  (kk : zR E y Z X (pc + 1) lo (.int (a <<< (b &&& 31)) :: st) g i j cu su) : zR E y Z X pc lo (.int b :: .int a :: st) g i j cu su := by
  obtain ⟨p, e, R, s, m, args, below, meth, c⟩ := X
  intro C H locs ls hR hS hl
  exact lv_ishl C.1 C.2.1 d  (kk C H locs ls hR hS hl)
theorem r_ishr {a b : Int32} (d : decode (mB y) pc = .ok (.ishr, 1))  (kk : zR E y Z X (pc + 1) lo (.int (a >>> (b &&& 31)) :: st) g i j cu su) : zR E y Z X pc lo (.int b :: .int a :: st) g i j cu su := by
  obtain ⟨p, e, R, s, m, args, below, meth, c⟩ := X
  intro C H locs ls hR hS hl
  exact lv_ishr C.1 C.2.1 d  (kk C H locs ls hR hS hl)
theorem r_iushr {a b : Int32} (d : decode (mB y) pc = .ok (.iushr, 1))  (kk : zR E y Z X (pc + 1) lo (.int ((a.toUInt32 >>> (b.toUInt32 &&& Int32.toUInt32 31)).toInt32) :: st) g i j cu su) : zR E y Z X pc lo (.int b :: .int a :: st) g i j cu su := by
  obtain ⟨p, e, R, s, m, args, below, meth, c⟩ := X
  intro C H locs ls hR hS hl
  exact lv_iushr C.1 C.2.1 d rfl (kk C H locs ls hR hS hl)
theorem r_idiv {a b : Int32} (d : decode (mB y) pc = .ok (.idiv, 1)) (hb : ¬ b = 0) (kk : zR E y Z X (pc + 1) lo (.int (a / b) :: st) g i j cu su) : zR E y Z X pc lo (.int b :: .int a :: st) g i j cu su := by
  obtain ⟨p, e, R, s, m, args, below, meth, c⟩ := X
  intro C H locs ls hR hS hl
  exact lv_idiv C.1 C.2.1 d hb (kk C H locs ls hR hS hl)
theorem r_irem {a b : Int32} (d : decode (mB y) pc = .ok (.irem, 1)) (hb : ¬ b = 0) (kk : zR E y Z X (pc + 1) lo (.int (a - a / b * b) :: st) g i j cu su) : zR E y Z X pc lo (.int b :: .int a :: st) g i j cu su := by
  obtain ⟨p, e, R, s, m, args, below, meth, c⟩ := X
  intro C H locs ls hR hS hl
  exact lv_irem C.1 C.2.1 d hb (kk C H locs ls hR hS hl)
theorem r_ineg {a : Int32} (d : decode (mB y) pc = .ok (.ineg, 1))  (kk : zR E y Z X (pc + 1) lo (.int (-a) :: st) g i j cu su) : zR E y Z X pc lo (.int a :: st) g i j cu su := by
  obtain ⟨p, e, R, s, m, args, below, meth, c⟩ := X
  intro C H locs ls hR hS hl
  exact lv_ineg C.1 C.2.1 d  (kk C H locs ls hR hS hl)
theorem r_ladd {a b : Int64} (d : decode (mB y) pc = .ok (.ladd, 1))  (kk : zR E y Z X (pc + 1) lo (.long (a + b) :: st) g i j cu su) : zR E y Z X pc lo (.long b :: .long a :: st) g i j cu su := by
  obtain ⟨p, e, R, s, m, args, below, meth, c⟩ := X
  intro C H locs ls hR hS hl
  exact lv_ladd C.1 C.2.1 d  (kk C H locs ls hR hS hl)
theorem r_lsub {a b : Int64} (d : decode (mB y) pc = .ok (.lsub, 1))  (kk : zR E y Z X (pc + 1) lo (.long (a - b) :: st) g i j cu su) : zR E y Z X pc lo (.long b :: .long a :: st) g i j cu su := by
  obtain ⟨p, e, R, s, m, args, below, meth, c⟩ := X
  intro C H locs ls hR hS hl
  exact lv_lsub C.1 C.2.1 d  (kk C H locs ls hR hS hl)
theorem r_lmul {a b : Int64} (d : decode (mB y) pc = .ok (.lmul, 1))  (kk : zR E y Z X (pc + 1) lo (.long (a * b) :: st) g i j cu su) : zR E y Z X pc lo (.long b :: .long a :: st) g i j cu su := by
  obtain ⟨p, e, R, s, m, args, below, meth, c⟩ := X
  intro C H locs ls hR hS hl
  exact lv_lmul C.1 C.2.1 d  (kk C H locs ls hR hS hl)
theorem r_lcmp {a b : Int64} (d : decode (mB y) pc = .ok (.lcmp, 1))  (kk : zR E y Z X (pc + 1) lo (.int (lg_cmp a b) :: st) g i j cu su) : zR E y Z X pc lo (.long b :: .long a :: st) g i j cu su := by
  obtain ⟨p, e, R, s, m, args, below, meth, c⟩ := X
  intro C H locs ls hR hS hl
  exact W.lcmp C.1 C.2.1 d  (kk C H locs ls hR hS hl)
theorem r_i2l {a : Int32} (d : decode (mB y) pc = .ok (.i2l, 1))  (kk : zR E y Z X (pc + 1) lo (.long (a.toInt64) :: st) g i j cu su) : zR E y Z X pc lo (.int a :: st) g i j cu su := by
  obtain ⟨p, e, R, s, m, args, below, meth, c⟩ := X
  intro C H locs ls hR hS hl
  exact lv_i2l C.1 C.2.1 d rfl (kk C H locs ls hR hS hl)
theorem r_l2i {a : Int64} (d : decode (mB y) pc = .ok (.l2i, 1))  (kk : zR E y Z X (pc + 1) lo (.int (a.toInt32) :: st) g i j cu su) : zR E y Z X pc lo (.long a :: st) g i j cu su := by
  obtain ⟨p, e, R, s, m, args, below, meth, c⟩ := X
  intro C H locs ls hR hS hl
  exact lv_l2i C.1 C.2.1 d rfl (kk C H locs ls hR hS hl)
theorem r_i2b {a : Int32} (d : decode (mB y) pc = .ok (.i2b, 1))  (kk : zR E y Z X (pc + 1) lo (.int (a.toInt8.toInt32) :: st) g i j cu su) : zR E y Z X pc lo (.int a :: st) g i j cu su := by
  obtain ⟨p, e, R, s, m, args, below, meth, c⟩ := X
  intro C H locs ls hR hS hl
  exact lv_i2b C.1 C.2.1 d rfl (kk C H locs ls hR hS hl)
theorem r_i2c {a : Int32} (d : decode (mB y) pc = .ok (.i2c, 1))  (kk : zR E y Z X (pc + 1) lo (.int ((a.toUInt32 % 65536).toInt32) :: st) g i j cu su) : zR E y Z X pc lo (.int a :: st) g i j cu su := by
  obtain ⟨p, e, R, s, m, args, below, meth, c⟩ := X
  intro C H locs ls hR hS hl
  exact lv_i2c C.1 C.2.1 d rfl (kk C H locs ls hR hS hl)
theorem r_i2f {a : Int32} (d : decode (mB y) pc = .ok (.i2f, 1))  (kk : zR E y Z X (pc + 1) lo (.float (FP.i2f a) :: st) g i j cu su) : zR E y Z X pc lo (.int a :: st) g i j cu su := by
  obtain ⟨p, e, R, s, m, args, below, meth, c⟩ := X
  intro C H locs ls hR hS hl
  exact lv_i2f C.1 C.2.1 d  (kk C H locs ls hR hS hl)
theorem r_i2d {a : Int32} (d : decode (mB y) pc = .ok (.i2d, 1))  (kk : zR E y Z X (pc + 1) lo (.double (FP.i2d a) :: st) g i j cu su) : zR E y Z X pc lo (.int a :: st) g i j cu su := by
  obtain ⟨p, e, R, s, m, args, below, meth, c⟩ := X
  intro C H locs ls hR hS hl
  exact lv_i2d C.1 C.2.1 d  (kk C H locs ls hR hS hl)
theorem r_fdiv {a b : UInt32} (d : decode (mB y) pc = .ok (.fdiv, 1)) (hn : vf_n32 (FP.fdiv a b)) (kk : zR E y Z X (pc + 1) lo (.float (FP.fdiv a b) :: st) g i j cu su) : zR E y Z X pc lo (.float b :: .float a :: st) g i j cu su := by
  obtain ⟨p, e, R, s, m, args, below, meth, c⟩ := X
  intro C H locs ls hR hS hl
  exact lv_fdiv C.1 C.2.1 d hn (kk C H locs ls hR hS hl)
theorem r_ddiv {a b : UInt64} (d : decode (mB y) pc = .ok (.ddiv, 1)) (hn : vf_n64 (FP.ddiv a b)) (kk : zR E y Z X (pc + 1) lo (.double (FP.ddiv a b) :: st) g i j cu su) : zR E y Z X pc lo (.double b :: .double a :: st) g i j cu su := by
  obtain ⟨p, e, R, s, m, args, below, meth, c⟩ := X
  intro C H locs ls hR hS hl
  exact lv_ddiv C.1 C.2.1 d hn (kk C H locs ls hR hS hl)
theorem r_f2d {a : UInt32} (d : decode (mB y) pc = .ok (.f2d, 1)) (hn : vf_n64 (FP.f2d a)) (kk : zR E y Z X (pc + 1) lo (.double (FP.f2d a) :: st) g i j cu su) : zR E y Z X pc lo (.float a :: st) g i j cu su := by
  obtain ⟨p, e, R, s, m, args, below, meth, c⟩ := X
  intro C H locs ls hR hS hl
  exact lv_f2d C.1 C.2.1 d hn (kk C H locs ls hR hS hl)
theorem r_dcmp {a b : UInt64} {op : CmpOp} (d : decode (mB y) pc = .ok (.dcmp op, 1))  (kk : zR E y Z X (pc + 1) lo (.int (Op.cmpValue (FP.dcmp a b) op) :: st) g i j cu su) : zR E y Z X pc lo (.double b :: .double a :: st) g i j cu su := by
  obtain ⟨p, e, R, s, m, args, below, meth, c⟩ := X
  intro C H locs ls hR hS hl
  exact lv_dcmp C.1 C.2.1 d  (kk C H locs ls hR hS hl)
theorem r_fconst0  (d : decode (mB y) pc = .ok (.fconst 0, 1))  (kk : zR E y Z X (pc + 1) lo (.float FP.fconst0 :: st) g i j cu su) : zR E y Z X pc lo st g i j cu su := by
  obtain ⟨p, e, R, s, m, args, below, meth, c⟩ := X
  intro C H locs ls hR hS hl
  exact lv_fconst0 C.1 C.2.1 d  (kk C H locs ls hR hS hl)
theorem r_dconst0  (d : decode (mB y) pc = .ok (.dconst 0, 1))  (kk : zR E y Z X (pc + 1) lo (.double FP.dconst0 :: st) g i j cu su) : zR E y Z X pc lo st g i j cu su := by
  obtain ⟨p, e, R, s, m, args, below, meth, c⟩ := X
  intro C H locs ls hR hS hl
  exact lv_dconst0 C.1 C.2.1 d  (kk C H locs ls hR hS hl)
theorem r_iconst {n : Int} {v : Int32} (d : decode (mB y) pc = .ok (.iconst n, 1)) (hv : Int32.ofInt n = v) (kk : zR E y Z X (pc + 1) lo (.int v :: st) g i j cu su) : zR E y Z X pc lo st g i j cu su := by
  obtain ⟨p, e, R, s, m, args, below, meth, c⟩ := X
  intro C H locs ls hR hS hl
  exact lv_iconst C.1 C.2.1 d hv (kk C H locs ls hR hS hl)
theorem r_bipush {n : Int} {v : Int32} (d : decode (mB y) pc = .ok (.bipush n, 2)) (hv : (Int8.ofInt n).toInt32 = v) (kk : zR E y Z X (pc + 2) lo (.int v :: st) g i j cu su) : zR E y Z X pc lo st g i j cu su := by
  obtain ⟨p, e, R, s, m, args, below, meth, c⟩ := X
  intro C H locs ls hR hS hl
  exact lv_bipush C.1 C.2.1 d hv (kk C H locs ls hR hS hl)
theorem r_sipush {n : Int} {v : Int32} (d : decode (mB y) pc = .ok (.sipush n, 3)) (hv : (Int16.ofInt n).toInt32 = v) (kk : zR E y Z X (pc + 3) lo (.int v :: st) g i j cu su) : zR E y Z X pc lo st g i j cu su := by
  obtain ⟨p, e, R, s, m, args, below, meth, c⟩ := X
  intro C H locs ls hR hS hl
  exact lv_sipush C.1 C.2.1 d hv (kk C H locs ls hR hS hl)
theorem r_lconst {n : Fin 2} {v : Int64} (d : decode (mB y) pc = .ok (.lconst n, 1)) (hv : Int64.ofNat (n : Nat) = v) (kk : zR E y Z X (pc + 1) lo (.long v :: st) g i j cu su) : zR E y Z X pc lo st g i j cu su := by
  obtain ⟨p, e, R, s, m, args, below, meth, c⟩ := X
  intro C H locs ls hR hS hl
  exact lv_lconst C.1 C.2.1 d hv (kk C H locs ls hR hS hl)
theorem r_null  (d : decode (mB y) pc = .ok (.aconst_null, 1))  (kk : zR E y Z X (pc + 1) lo (.ref 0 :: st) g i j cu su) : zR E y Z X pc lo st g i j cu su := by
  obtain ⟨p, e, R, s, m, args, below, meth, c⟩ := X
  intro C H locs ls hR hS hl
  exact lv_null C.1 C.2.1 d  (kk C H locs ls hR hS hl)
theorem r_dup {v : Value} (d : decode (mB y) pc = .ok (.dup, 1)) (hv : v.category = 1) (kk : zR E y Z X (pc + 1) lo (v :: v :: st) g i j cu su) : zR E y Z X pc lo (v :: st) g i j cu su := by
  obtain ⟨p, e, R, s, m, args, below, meth, c⟩ := X
  intro C H locs ls hR hS hl
  exact lv_dup C.1 C.2.1 d ((cv_cat _).trans hv) (kk C H locs ls hR hS hl)
theorem r_pop {v : Value} (d : decode (mB y) pc = .ok (.pop, 1)) (hv : v.category = 1) (kk : zR E y Z X (pc + 1) lo st g i j cu su) : zR E y Z X pc lo (v :: st) g i j cu su := by
  obtain ⟨p, e, R, s, m, args, below, meth, c⟩ := X
  intro C H locs ls hR hS hl
  exact lv_pop C.1 C.2.1 d ((cv_cat _).trans hv) (kk C H locs ls hR hS hl)
theorem r_dup_x1 {v w : Value} (d : decode (mB y) pc = .ok (.dup_x1, 1)) (hv : v.category = 1) (hw : w.category = 1) (kk : zR E y Z X (pc + 1) lo (v :: w :: v :: st) g i j cu su) : zR E y Z X pc lo (v :: w :: st) g i j cu su := by
  obtain ⟨p, e, R, s, m, args, below, meth, c⟩ := X
  intro C H locs ls hR hS hl
  exact lv_dup_x1 C.1 C.2.1 d ((cv_cat _).trans hv) ((cv_cat _).trans hw) (kk C H locs ls hR hS hl)
theorem r_dup2 {v w : Value} (d : decode (mB y) pc = .ok (.dup2, 1)) (hv : v.category = 1) (hw : w.category = 1) (kk : zR E y Z X (pc + 1) lo (v :: w :: v :: w :: st) g i j cu su) : zR E y Z X pc lo (v :: w :: st) g i j cu su := by
  obtain ⟨p, e, R, s, m, args, below, meth, c⟩ := X
  intro C H locs ls hR hS hl
  exact lv_dup2_11 C.1 C.2.1 d ((cv_cat _).trans hv) ((cv_cat _).trans hw) (kk C H locs ls hR hS hl)
theorem r_iload_n {q : Fin 4} {x : Int32} (d : decode (mB y) pc = .ok (.iload_n q, 1)) (h : lo[(q : Nat)]? = some (.int x)) (kk : zR E y Z X (pc + 1) lo (.int x :: st) g i j cu su) : zR E y Z X pc lo st g i j cu su := by
  obtain ⟨p, e, R, s, m, args, below, meth, cc⟩ := X
  intro C H locs ls hR hS hl
  exact lv_iload_n C.1 C.2.1 d rfl (hl.2.2 _ _ h (fun q => by cases q)) (kk C H locs ls hR hS hl)
theorem r_iload {q : Nat} {x : Int32} (d : decode (mB y) pc = .ok (.iload q, 2)) (h : lo[q]? = some (.int x)) (kk : zR E y Z X (pc + 2) lo (.int x :: st) g i j cu su) : zR E y Z X pc lo st g i j cu su := by
  obtain ⟨p, e, R, s, m, args, below, meth, cc⟩ := X
  intro C H locs ls hR hS hl
  exact lv_iload C.1 C.2.1 d (hl.2.2 _ _ h (fun q => by cases q)) (kk C H locs ls hR hS hl)
theorem r_lload_n {q : Fin 4} {x : Int64} (d : decode (mB y) pc = .ok (.lload_n q, 1)) (h : lo[(q : Nat)]? = some (.long x)) (kk : zR E y Z X (pc + 1) lo (.long x :: st) g i j cu su) : zR E y Z X pc lo st g i j cu su := by
  obtain ⟨p, e, R, s, m, args, below, meth, cc⟩ := X
  intro C H locs ls hR hS hl
  exact lv_lload_n C.1 C.2.1 d rfl (hl.2.2 _ _ h (fun q => by cases q)) (kk C H locs ls hR hS hl)
theorem r_lload {q : Nat} {x : Int64} (d : decode (mB y) pc = .ok (.lload q, 2)) (h : lo[q]? = some (.long x)) (kk : zR E y Z X (pc + 2) lo (.long x :: st) g i j cu su) : zR E y Z X pc lo st g i j cu su := by
  obtain ⟨p, e, R, s, m, args, below, meth, cc⟩ := X
  intro C H locs ls hR hS hl
  exact lv_lload C.1 C.2.1 d (hl.2.2 _ _ h (fun q => by cases q)) (kk C H locs ls hR hS hl)
theorem r_dload_n {q : Fin 4} {x : UInt64} (d : decode (mB y) pc = .ok (.dload_n q, 1)) (h : lo[(q : Nat)]? = some (.double x)) (kk : zR E y Z X (pc + 1) lo (.double x :: st) g i j cu su) : zR E y Z X pc lo st g i j cu su := by
  obtain ⟨p, e, R, s, m, args, below, meth, cc⟩ := X
  intro C H locs ls hR hS hl
  exact lv_dload_n C.1 C.2.1 d rfl (hl.2.2 _ _ h (fun q => by cases q)) (kk C H locs ls hR hS hl)
theorem r_dload {q : Nat} {x : UInt64} (d : decode (mB y) pc = .ok (.dload q, 2)) (h : lo[q]? = some (.double x)) (kk : zR E y Z X (pc + 2) lo (.double x :: st) g i j cu su) : zR E y Z X pc lo st g i j cu su := by
  obtain ⟨p, e, R, s, m, args, below, meth, cc⟩ := X
  intro C H locs ls hR hS hl
  exact lv_dload C.1 C.2.1 d (hl.2.2 _ _ h (fun q => by cases q)) (kk C H locs ls hR hS hl)
theorem r_aload_n {q : Fin 4} {x : Nat} (d : decode (mB y) pc = .ok (.aload_n q, 1)) (h : lo[(q : Nat)]? = some (.ref x)) (kk : zR E y Z X (pc + 1) lo (.ref x :: st) g i j cu su) : zR E y Z X pc lo st g i j cu su := by
  obtain ⟨p, e, R, s, m, args, below, meth, cc⟩ := X
  intro C H locs ls hR hS hl
  have h1 := hl.2.2 _ _ h (fun q => by cases q)
  cases x with
  | zero => exact lv_aload_nN C.1 C.2.1 d rfl h1 (kk C H locs ls hR hS hl)
  | succ n => exact lv_aload_n C.1 C.2.1 d rfl h1 (kk C H locs ls hR hS hl)
theorem r_aload {q : Nat} {x : Nat} (d : decode (mB y) pc = .ok (.aload q, 2)) (h : lo[q]? = some (.ref x)) (kk : zR E y Z X (pc + 2) lo (.ref x :: st) g i j cu su) : zR E y Z X pc lo st g i j cu su := by
  obtain ⟨p, e, R, s, m, args, below, meth, cc⟩ := X
  intro C H locs ls hR hS hl
  have h1 := hl.2.2 _ _ h (fun q => by cases q)
  cases x with
  | zero => exact lv_aloadN C.1 C.2.1 d h1 (kk C H locs ls hR hS hl)
  | succ n => exact lv_aload C.1 C.2.1 d h1 (kk C H locs ls hR hS hl)
end RULES
/-- the locals but one -/
def zpl (lo : List Value) : List (Nat × Value) := (List.range lo.length).filterMap fun k => match lo[k]? with
  | some v => if v = zJ then none else some (k, cv v)
  | none => none
theorem zpl_mem {lo : List Value} {k : Nat} {v : Value} (h : lo[k]? = some v) (hv : v ≠ zJ) : (k, cv v) ∈ zpl lo :=
  List.mem_filterMap.mpr ⟨k, List.mem_range.mpr (List.getElem?_eq_some_iff.mp h).1, by simp only [h]; rw [if_neg hv]⟩
theorem zpl_of {lo : List Value} {q : Nat × Value} (h : q ∈ zpl lo) : ∃ v, lo[q.1]? = some v ∧ v ≠ zJ ∧ q.2 = cv v := by
  obtain ⟨k, -, hk⟩ := List.mem_filterMap.mp h
  cases hl : lo[k]? with
  | none => simp [hl] at hk
  | some v =>
    simp only [hl] at hk
    by_cases hv : v = zJ
    · simp [hv] at hk
    · rw [if_neg hv] at hk
      cases Option.some.inj hk
      exact ⟨v, hl, hv, rfl⟩
theorem zlo.has {ls : Array Slot} {n : Nat} {lo : List Value} (h : zlo ls n lo) : lv_has ls n (zpl lo) :=
  ⟨h.1, h.2.1, fun q hq => by
    obtain ⟨v, h1, h2, h3⟩ := zpl_of hq
    rw [h3]
    exact h.2.2 _ _ h1 h2⟩
/-- no long ends at i -/
def zok (lo : List Value) (i : Nat) : Bool := match i with
  | 0 => true
  | k + 1 => match lo[k]? with
    | some w => w.category == 1
    | none => true
theorem zok_of {lo : List Value} {i k : Nat} {w : Value} (h : zok lo i = true) (hk : k + 1 = i) (hw : lo[k]? = some w) : ¬ w.category = 2 := by
  subst hk
  simp only [zok, hw, beq_iff_eq] at h
  omega
theorem zlo.set1 {ls : Array Slot} {n i : Nat} {lo : List Value} {v : Value} (hi : i < n) (hk : zok lo i = true)
    (h : lv_has ls n ((i, cv v) :: (zpl lo).filter (fun q => !(q.1 == i) && !(q.1 + 1 == i && q.2.category == 2)))) : zlo ls n (lo.set i v) := by
  refine ⟨h.1, h.2.1, fun k w hw hv => ?_⟩
  by_cases hki : k = i
  · subst hki
    have h1 : k < lo.length := by
      have := (List.getElem?_eq_some_iff.mp hw).1
      simpa using this
    rw [List.getElem?_set_self h1] at hw
    cases hw
    exact h.2.2 _ List.mem_cons_self
  · rw [List.getElem?_set_ne (Ne.symm hki)] at hw
    refine h.2.2 (k, cv w) (List.mem_cons_of_mem _ (List.mem_filter.mpr ⟨zpl_mem hw hv, ?_⟩))
    by_cases h2 : k + 1 = i
    · have := zok_of hk h2 hw
      simp [hki, h2, cv_cat, this]
    · simp [hki, h2]
theorem zlo.set2 {ls : Array Slot} {n i : Nat} {lo : List Value} {v : Value} (hi : i + 1 < n) (hk : zok lo i = true)
    (h : lv_has ls n ((i, cv v) :: (zpl lo).filter (fun q => !(q.1 == i) && (!(q.1 == i + 1) && !(q.1 + 1 == i && q.2.category == 2))))) : zlo ls n ((lo.set i v).set (i + 1) zJ) := by
  refine ⟨h.1, h.2.1, fun k w hw hv => ?_⟩
  by_cases hk1 : k = i + 1
  · subst hk1
    by_cases hl : i + 1 < (lo.set i v).length
    · rw [List.getElem?_set_self hl] at hw
      exact absurd (Option.some.inj hw).symm hv
    · rw [List.getElem?_eq_none (by simpa using hl)] at hw
      cases hw
  · rw [List.getElem?_set_ne (Ne.symm hk1)] at hw
    by_cases hki : k = i
    · subst hki
      have h1 : k < lo.length := by
        have := (List.getElem?_eq_some_iff.mp hw).1
        simpa using this
      rw [List.getElem?_set_self h1] at hw
      cases hw
      exact h.2.2 _ List.mem_cons_self
    · rw [List.getElem?_set_ne (Ne.symm hki)] at hw
      refine h.2.2 (k, cv w) (List.mem_cons_of_mem _ (List.mem_filter.mpr ⟨zpl_mem hw hv, ?_⟩))
      by_cases h2 : k + 1 = i
      · have := zok_of hk h2 hw
        simp [hki, hk1, h2, cv_cat, this]
      · simp [hki, hk1, h2]
section RULES2
variable {E : Ev} {y : Mt} {Z : Fx → State → Prop} {X : Fx} {pc : Nat} {lo st : List Value} {g : Sh} {i : Ni} {j : Nj} {cu su : Nat}
theorem r_istore_n {q : Fin 4} {x : Int32} {lo2 : List Value} (d : decode (mB y) pc = .ok (.istore_n q, 1)) (hn : Nat.ble ((q : Nat) + 1) (mL y) = true) (hk : zok lo (q : Nat) = true) (h2 : lo.set (q : Nat) (.int x) = lo2) (kk : zR E y Z X (pc + 1) lo2 st g i j cu su) : zR E y Z X pc lo (.int x :: st) g i j cu su := by
  subst h2
  obtain ⟨p, e, R, s, m, args, below, meth, cc⟩ := X
  intro C H locs ls hR hS hl
  exact lv_istore_n C.1 C.2.1 d rfl hl.has (Nat.le_of_ble_eq_true hn) rfl (fun ls2 h3 => kk C H locs ls2 hR hS (zlo.set1 (v := .int x) (Nat.le_of_ble_eq_true hn) hk h3))
theorem r_istore {q : Nat} {x : Int32} {lo2 : List Value} (d : decode (mB y) pc = .ok (.istore q, 2)) (hn : Nat.ble (q + 1) (mL y) = true) (hk : zok lo q = true) (h2 : lo.set q (.int x) = lo2) (kk : zR E y Z X (pc + 2) lo2 st g i j cu su) : zR E y Z X pc lo (.int x :: st) g i j cu su := by
  subst h2
  obtain ⟨p, e, R, s, m, args, below, meth, cc⟩ := X
  intro C H locs ls hR hS hl
  exact lv_istore C.1 C.2.1 d hl.has (Nat.le_of_ble_eq_true hn) rfl (fun ls2 h3 => kk C H locs ls2 hR hS (zlo.set1 (v := .int x) (Nat.le_of_ble_eq_true hn) hk h3))
theorem r_astore_n {q : Fin 4} {x : Nat} {lo2 : List Value} (d : decode (mB y) pc = .ok (.astore_n q, 1)) (hn : Nat.ble ((q : Nat) + 1) (mL y) = true) (hk : zok lo (q : Nat) = true) (h2 : lo.set (q : Nat) (.ref x) = lo2) (kk : zR E y Z X (pc + 1) lo2 st g i j cu su) : zR E y Z X pc lo (.ref x :: st) g i j cu su := by
  subst h2
  obtain ⟨p, e, R, s, m, args, below, meth, cc⟩ := X
  intro C H locs ls hR hS hl
  cases x with
  | zero => exact lv_astore_nN C.1 C.2.1 d rfl hl.has (Nat.le_of_ble_eq_true hn) rfl (fun ls2 h3 => kk C H locs ls2 hR hS (zlo.set1 (v := .ref 0) (Nat.le_of_ble_eq_true hn) hk h3))
  | succ w => exact lv_astore_n C.1 C.2.1 d rfl hl.has (Nat.le_of_ble_eq_true hn) rfl (fun ls2 h3 => kk C H locs ls2 hR hS (zlo.set1 (v := .ref (w + 1)) (Nat.le_of_ble_eq_true hn) hk h3))
theorem r_astore {q : Nat} {x : Nat} {lo2 : List Value} (d : decode (mB y) pc = .ok (.astore q, 2)) (hn : Nat.ble (q + 1) (mL y) = true) (hk : zok lo q = true) (h2 : lo.set q (.ref x) = lo2) (kk : zR E y Z X (pc + 2) lo2 st g i j cu su) : zR E y Z X pc lo (.ref x :: st) g i j cu su := by
  subst h2
  obtain ⟨p, e, R, s, m, args, below, meth, cc⟩ := X
  intro C H locs ls hR hS hl
  cases x with
  | zero => exact lv_astoreN C.1 C.2.1 d hl.has (Nat.le_of_ble_eq_true hn) rfl (fun ls2 h3 => kk C H locs ls2 hR hS (zlo.set1 (v := .ref 0) (Nat.le_of_ble_eq_true hn) hk h3))
  | succ w => exact lv_astore C.1 C.2.1 d hl.has (Nat.le_of_ble_eq_true hn) rfl (fun ls2 h3 => kk C H locs ls2 hR hS (zlo.set1 (v := .ref (w + 1)) (Nat.le_of_ble_eq_true hn) hk h3))
theorem r_lstore_n {q : Fin 4} {x : Int64} {lo2 : List Value} (d : decode (mB y) pc = .ok (.lstore_n q, 1)) (hn : Nat.ble ((q : Nat) + 2) (mL y) = true) (hk : zok lo (q : Nat) = true) (h2 : (lo.set (q : Nat) (.long x)).set ((q : Nat) + 1) zJ = lo2) (kk : zR E y Z X (pc + 1) lo2 st g i j cu su) : zR E y Z X pc lo (.long x :: st) g i j cu su := by
  subst h2
  obtain ⟨p, e, R, s, m, args, below, meth, cc⟩ := X
  intro C H locs ls hR hS hl
  exact lv_lstore_n C.1 C.2.1 d rfl hl.has (Nat.le_of_ble_eq_true hn) rfl (fun ls2 h3 => kk C H locs ls2 hR hS (zlo.set2 (v := .long x) (Nat.le_of_ble_eq_true hn) hk h3))
theorem r_lstore {q : Nat} {x : Int64} {lo2 : List Value} (d : decode (mB y) pc = .ok (.lstore q, 2)) (hn : Nat.ble (q + 2) (mL y) = true) (hk : zok lo q = true) (h2 : (lo.set q (.long x)).set (q + 1) zJ = lo2) (kk : zR E y Z X (pc + 2) lo2 st g i j cu su) : zR E y Z X pc lo (.long x :: st) g i j cu su := by
  subst h2
  obtain ⟨p, e, R, s, m, args, below, meth, cc⟩ := X
  intro C H locs ls hR hS hl
  exact lv_lstore C.1 C.2.1 d hl.has (Nat.le_of_ble_eq_true hn) rfl (fun ls2 h3 => kk C H locs ls2 hR hS (zlo.set2 (v := .long x) (Nat.le_of_ble_eq_true hn) hk h3))
theorem r_dstore_n {q : Fin 4} {x : UInt64} {lo2 : List Value} (d : decode (mB y) pc = .ok (.dstore_n q, 1)) (hn : Nat.ble ((q : Nat) + 2) (mL y) = true) (hk : zok lo (q : Nat) = true) (h2 : (lo.set (q : Nat) (.double x)).set ((q : Nat) + 1) zJ = lo2) (kk : zR E y Z X (pc + 1) lo2 st g i j cu su) : zR E y Z X pc lo (.double x :: st) g i j cu su := by
  subst h2
  obtain ⟨p, e, R, s, m, args, below, meth, cc⟩ := X
  intro C H locs ls hR hS hl
  exact lv_dstore_n C.1 C.2.1 d rfl hl.has (Nat.le_of_ble_eq_true hn) rfl (fun ls2 h3 => kk C H locs ls2 hR hS (zlo.set2 (v := .double x) (Nat.le_of_ble_eq_true hn) hk h3))
theorem r_dstore {q : Nat} {x : UInt64} {lo2 : List Value} (d : decode (mB y) pc = .ok (.dstore q, 2)) (hn : Nat.ble (q + 2) (mL y) = true) (hk : zok lo q = true) (h2 : (lo.set q (.double x)).set (q + 1) zJ = lo2) (kk : zR E y Z X (pc + 2) lo2 st g i j cu su) : zR E y Z X pc lo (.double x :: st) g i j cu su := by
  subst h2
  obtain ⟨p, e, R, s, m, args, below, meth, cc⟩ := X
  intro C H locs ls hR hS hl
  exact lv_dstore C.1 C.2.1 d hl.has (Nat.le_of_ble_eq_true hn) rfl (fun ls2 h3 => kk C H locs ls2 hR hS (zlo.set2 (v := .double x) (Nat.le_of_ble_eq_true hn) hk h3))
theorem r_iinc {q : Nat} {n : Int} {x v : Int32} {lo2 : List Value} (d : decode (mB y) pc = .ok (.iinc q n, 3)) (h : lo[q]? = some (.int x)) (hv : x + Int32.ofInt n = v) (hn : Nat.ble (q + 1) (mL y) = true) (hk : zok lo q = true) (h2 : lo.set q (.int v) = lo2) (kk : zR E y Z X (pc + 3) lo2 st g i j cu su) : zR E y Z X pc lo st g i j cu su := by
  subst h2
  obtain ⟨p, e, R, s, m, args, below, meth, cc⟩ := X
  intro C H locs ls hR hS hl
  obtain ⟨k0, hk0⟩ := List.getElem?_of_mem (zpl_mem h (fun q => by cases q))
  exact lv_iinc C.1 C.2.1 d hl.has hk0 hv (Nat.le_of_ble_eq_true hn) rfl (fun ls2 h3 => kk C H locs ls2 hR hS (zlo.set1 (v := .int v) (Nat.le_of_ble_eq_true hn) hk h3))
theorem r_if_eq {x : Int32} {off : Int} {t : Nat} (d : decode (mB y) pc = .ok (.ifCond .eq off, 3)) (ht : (pc : Int) + off = (t : Int)) (kt : x = 0 → zR E y Z X t lo st g i j cu su) (kf : ¬ x = 0 → zR E y Z X (pc + 3) lo st g i j cu su) : zR E y Z X pc lo (.int x :: st) g i j cu su := by
  obtain ⟨p, e, R, s, m, args, below, meth, cc⟩ := X
  intro C H locs ls hR hS hl
  exact lv_if_eq C.1 C.2.1 d ht (fun q => kt q C H locs ls hR hS hl) (fun q => kf q C H locs ls hR hS hl)
theorem r_if_ne {x : Int32} {off : Int} {t : Nat} (d : decode (mB y) pc = .ok (.ifCond .ne off, 3)) (ht : (pc : Int) + off = (t : Int)) (kt : ¬ x = 0 → zR E y Z X t lo st g i j cu su) (kf : x = 0 → zR E y Z X (pc + 3) lo st g i j cu su) : zR E y Z X pc lo (.int x :: st) g i j cu su := by
  obtain ⟨p, e, R, s, m, args, below, meth, cc⟩ := X
  intro C H locs ls hR hS hl
  exact lv_if_ne C.1 C.2.1 d ht (fun q => kt q C H locs ls hR hS hl) (fun q => kf q C H locs ls hR hS hl)
theorem r_if_lt {x : Int32} {off : Int} {t : Nat} (d : decode (mB y) pc = .ok (.ifCond .lt off, 3)) (ht : (pc : Int) + off = (t : Int)) (kt : x < 0 → zR E y Z X t lo st g i j cu su) (kf : ¬ x < 0 → zR E y Z X (pc + 3) lo st g i j cu su) : zR E y Z X pc lo (.int x :: st) g i j cu su := by
  obtain ⟨p, e, R, s, m, args, below, meth, cc⟩ := X
  intro C H locs ls hR hS hl
  exact lv_if_lt C.1 C.2.1 d ht (fun q => kt q C H locs ls hR hS hl) (fun q => kf q C H locs ls hR hS hl)
theorem r_if_ge {x : Int32} {off : Int} {t : Nat} (d : decode (mB y) pc = .ok (.ifCond .ge off, 3)) (ht : (pc : Int) + off = (t : Int)) (kt : 0 ≤ x → zR E y Z X t lo st g i j cu su) (kf : ¬ 0 ≤ x → zR E y Z X (pc + 3) lo st g i j cu su) : zR E y Z X pc lo (.int x :: st) g i j cu su := by
  obtain ⟨p, e, R, s, m, args, below, meth, cc⟩ := X
  intro C H locs ls hR hS hl
  exact lv_if_ge C.1 C.2.1 d ht (fun q => kt q C H locs ls hR hS hl) (fun q => kf q C H locs ls hR hS hl)
theorem r_if_gt {x : Int32} {off : Int} {t : Nat} (d : decode (mB y) pc = .ok (.ifCond .gt off, 3)) (ht : (pc : Int) + off = (t : Int)) (kt : 0 < x → zR E y Z X t lo st g i j cu su) (kf : ¬ 0 < x → zR E y Z X (pc + 3) lo st g i j cu su) : zR E y Z X pc lo (.int x :: st) g i j cu su := by
  obtain ⟨p, e, R, s, m, args, below, meth, cc⟩ := X
  intro C H locs ls hR hS hl
  exact lv_if_gt C.1 C.2.1 d ht (fun q => kt q C H locs ls hR hS hl) (fun q => kf q C H locs ls hR hS hl)
theorem r_if_le {x : Int32} {off : Int} {t : Nat} (d : decode (mB y) pc = .ok (.ifCond .le off, 3)) (ht : (pc : Int) + off = (t : Int)) (kt : x ≤ 0 → zR E y Z X t lo st g i j cu su) (kf : ¬ x ≤ 0 → zR E y Z X (pc + 3) lo st g i j cu su) : zR E y Z X pc lo (.int x :: st) g i j cu su := by
  obtain ⟨p, e, R, s, m, args, below, meth, cc⟩ := X
  intro C H locs ls hR hS hl
  exact lv_if_le C.1 C.2.1 d ht (fun q => kt q C H locs ls hR hS hl) (fun q => kf q C H locs ls hR hS hl)
theorem r_icmp_eq {x w : Int32} {off : Int} {t : Nat} (d : decode (mB y) pc = .ok (.if_icmp .eq off, 3)) (ht : (pc : Int) + off = (t : Int)) (kt : x = w → zR E y Z X t lo st g i j cu su) (kf : ¬ x = w → zR E y Z X (pc + 3) lo st g i j cu su) : zR E y Z X pc lo (.int w :: .int x :: st) g i j cu su := by
  obtain ⟨p, e, R, s, m, args, below, meth, cc⟩ := X
  intro C H locs ls hR hS hl
  exact lv_icmp_eq C.1 C.2.1 d ht (fun q => kt q C H locs ls hR hS hl) (fun q => kf q C H locs ls hR hS hl)
theorem r_icmp_ne {x w : Int32} {off : Int} {t : Nat} (d : decode (mB y) pc = .ok (.if_icmp .ne off, 3)) (ht : (pc : Int) + off = (t : Int)) (kt : ¬ x = w → zR E y Z X t lo st g i j cu su) (kf : x = w → zR E y Z X (pc + 3) lo st g i j cu su) : zR E y Z X pc lo (.int w :: .int x :: st) g i j cu su := by
  obtain ⟨p, e, R, s, m, args, below, meth, cc⟩ := X
  intro C H locs ls hR hS hl
  exact lv_icmp_ne C.1 C.2.1 d ht (fun q => kt q C H locs ls hR hS hl) (fun q => kf q C H locs ls hR hS hl)
theorem r_icmp_lt {x w : Int32} {off : Int} {t : Nat} (d : decode (mB y) pc = .ok (.if_icmp .lt off, 3)) (ht : (pc : Int) + off = (t : Int)) (kt : x < w → zR E y Z X t lo st g i j cu su) (kf : ¬ x < w → zR E y Z X (pc + 3) lo st g i j cu su) : zR E y Z X pc lo (.int w :: .int x :: st) g i j cu su := by
  obtain ⟨p, e, R, s, m, args, below, meth, cc⟩ := X
  intro C H locs ls hR hS hl
  exact lv_icmp_lt C.1 C.2.1 d ht (fun q => kt q C H locs ls hR hS hl) (fun q => kf q C H locs ls hR hS hl)
theorem r_icmp_ge {x w : Int32} {off : Int} {t : Nat} (d : decode (mB y) pc = .ok (.if_icmp .ge off, 3)) (ht : (pc : Int) + off = (t : Int)) (kt : w ≤ x → zR E y Z X t lo st g i j cu su) (kf : ¬ w ≤ x → zR E y Z X (pc + 3) lo st g i j cu su) : zR E y Z X pc lo (.int w :: .int x :: st) g i j cu su := by
  obtain ⟨p, e, R, s, m, args, below, meth, cc⟩ := X
  intro C H locs ls hR hS hl
  exact lv_icmp_ge C.1 C.2.1 d ht (fun q => kt q C H locs ls hR hS hl) (fun q => kf q C H locs ls hR hS hl)
theorem r_icmp_gt {x w : Int32} {off : Int} {t : Nat} (d : decode (mB y) pc = .ok (.if_icmp .gt off, 3)) (ht : (pc : Int) + off = (t : Int)) (kt : w < x → zR E y Z X t lo st g i j cu su) (kf : ¬ w < x → zR E y Z X (pc + 3) lo st g i j cu su) : zR E y Z X pc lo (.int w :: .int x :: st) g i j cu su := by
  obtain ⟨p, e, R, s, m, args, below, meth, cc⟩ := X
  intro C H locs ls hR hS hl
  exact lv_icmp_gt C.1 C.2.1 d ht (fun q => kt q C H locs ls hR hS hl) (fun q => kf q C H locs ls hR hS hl)
theorem r_icmp_le {x w : Int32} {off : Int} {t : Nat} (d : decode (mB y) pc = .ok (.if_icmp .le off, 3)) (ht : (pc : Int) + off = (t : Int)) (kt : x ≤ w → zR E y Z X t lo st g i j cu su) (kf : ¬ x ≤ w → zR E y Z X (pc + 3) lo st g i j cu su) : zR E y Z X pc lo (.int w :: .int x :: st) g i j cu su := by
  obtain ⟨p, e, R, s, m, args, below, meth, cc⟩ := X
  intro C H locs ls hR hS hl
  exact lv_icmp_le C.1 C.2.1 d ht (fun q => kt q C H locs ls hR hS hl) (fun q => kf q C H locs ls hR hS hl)
theorem r_goto {off : Int} {t : Nat} (d : decode (mB y) pc = .ok (.goto off, 3)) (ht : (pc : Int) + off = (t : Int)) (kk : zR E y Z X t lo st g i j cu su) : zR E y Z X pc lo st g i j cu su := by
  obtain ⟨p, e, R, s, m, args, below, meth, cc⟩ := X
  intro C H locs ls hR hS hl
  exact lv_goto C.1 C.2.1 d ht (kk C H locs ls hR hS hl)
theorem r_ifnull {x : Nat} {off : Int} {t : Nat} (d : decode (mB y) pc = .ok (.ifnull off, 3)) (ht : (pc : Int) + off = (t : Int)) (kt : x = 0 → zR E y Z X t lo st g i j cu su) (kf : ¬ x = 0 → zR E y Z X (pc + 3) lo st g i j cu su) : zR E y Z X pc lo (.ref x :: st) g i j cu su := by
  obtain ⟨p, e, R, s, m, args, below, meth, cc⟩ := X
  intro C H locs ls hR hS hl
  cases x with
  | zero => exact lv_ifnullN C.1 C.2.1 d ht (kt rfl C H locs ls hR hS hl)
  | succ n => exact lv_ifnull C.1 C.2.1 d (kf (Nat.succ_ne_zero n) C H locs ls hR hS hl)
theorem r_ifnonnull {x : Nat} {off : Int} {t : Nat} (d : decode (mB y) pc = .ok (.ifnonnull off, 3)) (ht : (pc : Int) + off = (t : Int)) (kt : ¬ x = 0 → zR E y Z X t lo st g i j cu su) (kf : x = 0 → zR E y Z X (pc + 3) lo st g i j cu su) : zR E y Z X pc lo (.ref x :: st) g i j cu su := by
  obtain ⟨p, e, R, s, m, args, below, meth, cc⟩ := X
  intro C H locs ls hR hS hl
  cases x with
  | zero => exact lv_ifnonnullN C.1 C.2.1 d (kf rfl C H locs ls hR hS hl)
  | succ n => exact lv_ifnonnull C.1 C.2.1 d ht (kt (Nat.succ_ne_zero n) C H locs ls hR hS hl)
end RULES2
/-! fields -/
def zF (own : String) (idx c k : Nat) : Prop := c < 6 ∧ k < (zcl c).2.2 ∧ Cond.fieldLink own idx ((zcl c).2.1 k).1 ((zcl c).2.1 k).2.1 ((zcl c).2.1 k).2.2.1 ∈ lw_good
/-- its class's words -/
theorem zin_ws {c : Nat} (hc : c < 6) : ∀ w ∈ u_ws (zcl c).1 (zcl c).2.1 (zcl c).2.2, w ∈ lw_good := by
  have h : ∀ c, c < 6 → (u_ws (zcl c).1 (zcl c).2.1 (zcl c).2.2).all (fun w => decide (w ∈ lw_good)) = true := by decide +kernel
  intro w hw
  exact of_decide_eq_true (List.all_eq_true.mp (h c hc) w hw)
def zint (ty : FieldType) : Bool := match ty with
  | .int => true
  | .boolean => true
  | .byte => true
  | _ => false
def zrefty (ty : FieldType) : Bool := match ty with
  | .object _ => true
  | .array _ => true
  | _ => false
theorem zV_int {ty : FieldType} (h : zint ty = true) (g : Sh) (i : Ni) (j : Nj) (r k : Nat) : zV ty g i j r k = .int (i r k) := by
  cases ty <;> simp [zint] at h <;> rfl
theorem zV_ref {ty : FieldType} (h : zrefty ty = true) (g : Sh) (i : Ni) (j : Nj) (r k : Nat) : zV ty g i j r k = va_rf (zrf (gR g r k)) := by
  cases ty <;> simp [zrefty] at h <;> rfl
theorem znz {E : Ev} {g : Sh} {i : Ni} {j : Nj} {H : Heap} {r t : Nat} (hR : zRep E g i j H) (h : gT g r = t + 1) : ∃ a, r = a + 1 := by
  cases r with
  | zero => exact absurd (hR.2.2.symm.trans h) (Nat.succ_ne_zero t).symm
  | succ a => exact ⟨a, rfl⟩
section RULES3
variable {E : Ev} {y : Mt} {Z : Fx → State → Prop} {X : Fx} {pc : Nat} {lo st : List Value} {g : Sh} {i : Ni} {j : Nj} {cu su : Nat}
/-- reading a field, as the machine has it -/
theorem zget {p : Program} {l : Launch} {e : Env} {R : Room} {s : State} {m : MethodId} {args : Array Value} {below : List Frame} {meth : Method} {c : Code} {H : Heap} {locs : List Loc} {Q : State → Prop} {ls : Array Slot} {rest : List Value} {a cc k idx : Nat}
    (C : zCtx E y (p, e, R, s, m, args, below, meth, c)) (hR : zRep E g i j H) (f : zF (mN y).cls idx cc k) (ht : gT g (a + 1) = cc + 1) (d : decode (mB y) pc = .ok (.getfield idx, 3))
    (kk : W p l e R s m args below meth c H locs cu su Q (F0 m (pc + 3) ls (zV (zty cc k) g i j (a + 1) k :: rest))) : W p l e R s m args below meth c H locs cu su Q (F0 m pc ls (.ref a :: rest)) := by
  obtain ⟨f1, f2, f3⟩ := f
  obtain ⟨-, -, hO⟩ := hR.1 a cc ht (by omega)
  obtain ⟨cell, q1, q2, q3, q4⟩ := hO
  obtain ⟨hx, hb, -, -, hown, hts, hE, -⟩ := C
  obtain ⟨hSl, hfc, kC, hkC, -⟩ := hE.2.1.1 cc _ (zcl_at f1)
  obtain ⟨cf, kf, fi, fd, hi, hsl⟩ := hSl k f2
  refine W.getf hx hb hown (hts _ f3) hi (u_facts hfc hkC (u_lays hts (zin_ws f1) f2) hi).1 q1 (by rw [q3]; exact fun h => by cases h) (v := zV (zty cc k) g i j (a + 1) k) ?_ rfl rfl d kk
  rw [hsl]
  exact q4 k f2
theorem r_geti {c k idx r : Nat} (d : decode (mB y) pc = .ok (.getfield idx, 3)) (f : zF (mN y).cls idx c k) (hty : zint (zty c k) = true) (ht : gT g r = c + 1) (kk : zR E y Z X (pc + 3) lo (.int (i r k) :: st) g i j cu su) : zR E y Z X pc lo (.ref r :: st) g i j cu su := by
  obtain ⟨p, e, R, s, m, args, below, meth, cc⟩ := X
  intro C H locs ls hR hS hl
  obtain ⟨a, rfl⟩ := znz hR ht
  exact zget C hR f ht d (by rw [zV_int hty]; exact kk C H locs ls hR hS hl)
theorem r_getr {c k idx r v : Nat} (d : decode (mB y) pc = .ok (.getfield idx, 3)) (f : zF (mN y).cls idx c k) (hty : zrefty (zty c k) = true) (ht : gT g r = c + 1) (hv : gR g r k = v) (kk : zR E y Z X (pc + 3) lo (.ref v :: st) g i j cu su) : zR E y Z X pc lo (.ref r :: st) g i j cu su := by
  subst hv
  obtain ⟨p, e, R, s, m, args, below, meth, cc⟩ := X
  intro C H locs ls hR hS hl
  obtain ⟨a, rfl⟩ := znz hR ht
  exact zget C hR f ht d (by rw [zV_ref hty]; exact kk C H locs ls hR hS hl)
theorem r_getl {c k idx r : Nat} (d : decode (mB y) pc = .ok (.getfield idx, 3)) (f : zF (mN y).cls idx c k) (hty : zty c k = .long) (ht : gT g r = c + 1) (kk : zR E y Z X (pc + 3) lo (.long (j r k) :: st) g i j cu su) : zR E y Z X pc lo (.ref r :: st) g i j cu su := by
  obtain ⟨p, e, R, s, m, args, below, meth, cc⟩ := X
  intro C H locs ls hR hS hl
  obtain ⟨a, rfl⟩ := znz hR ht
  exact zget C hR f ht d (by rw [hty]; exact kk C H locs ls hR hS hl)
/-- writing a field, as the machine has it -/
theorem zput {p : Program} {l : Launch} {e : Env} {R : Room} {s : State} {m : MethodId} {args : Array Value} {below : List Frame} {meth : Method} {c : Code} {H : Heap} {locs : List Loc} {Q : State → Prop} {ls : Array Slot} {rest : List Value} {a cc k idx : Nat} {v : Value} {g2 : Sh} {i2 : Ni} {j2 : Nj}
    (C : zCtx E y (p, e, R, s, m, args, below, meth, c)) (hR : zRep E g i j H) (hS : va_S (zA E) s.heap H locs) (f : zF (mN y).cls idx cc k) (hfin : ((zcl cc).2.1 k).2.2.2 = false ∨ (((zcl cc).2.1 k).2.2.2 = true ∧ (mN y).name = "<init>" ∧ ((zcl cc).2.1 k).1 = (mN y).cls)) (hn : narrow (zty cc k) v = v) (hfit : fits (zty cc k) v = true) (ht : gT g (a + 1) = cc + 1) (d : decode (mB y) pc = .ok (.putfield idx, 3))
    (hT : ∀ r, gT g2 r = gT g r) (same : ∀ r, r ≠ a + 1 → i2 r = i r ∧ j2 r = j r ∧ gL g2 r = gL g r ∧ ∀ k, gR g2 r k = gR g r k)
    (hV : ∀ n, zV (zty cc n) g2 i2 j2 (a + 1) n = if n = k then v else zV (zty cc n) g i j (a + 1) n)
    (kk : ∀ (H1 : Heap) (locs1 : List Loc), zRep E g2 i2 j2 H1 → va_S (zA E) s.heap H1 locs1 → W p l e R s m args below meth c H1 locs1 cu su Q (F0 m (pc + 3) ls rest)) : W p l e R s m args below meth c H locs cu su Q (F0 m pc ls (v :: .ref a :: rest)) := by
  obtain ⟨f1, f2, f3⟩ := f
  obtain ⟨hB, -, hO⟩ := hR.1 a cc ht (by omega)
  obtain ⟨cell, q1, q2, q3, q4⟩ := hO
  obtain ⟨hx, hb, -, -, hown, hts, hE, -, -, -, hnm⟩ := C
  have hap := va_apart (own := (mN y).cls) hts (zin_ws f1) (zty cc) (fun k hk => zty_ok f1 hk) (znm_ok f1) hE.2.1 (zcl_at f1)
  obtain ⟨hSl, hfc, kC, hkC, hkind⟩ := hE.2.1.1 cc _ (zcl_at f1)
  obtain ⟨cf, kf, fi, fd, hi, hsl⟩ := hSl k f2
  have hlay := u_lays hts (zin_ws f1) f2
  have hst := (u_facts hfc hkC hlay hi).1
  have h6 := u_fits hfc hkC hkind hlay hi (zty_ok f1 f2) hn hfit
  have fin : ∀ H' : Heap, H'[a]? = some (cell.setSlot fd.slot v) → H'.size = H.size → (∀ q, q ≠ a → H'[q]? = H[q]?) → W p l e R s m args below meth c H' (locs ++ [⟨a, fd.slot⟩]) cu su Q (F0 m (pc + 3) ls rest) := by
    intro H' e1 e2 e3
    rw [hsl] at e1
    refine kk H' _ (hR.upd hT e3 same (fun c2 h1 h2 => ?_) (fun t h1 => ?_)) (hS.put e2 e3 hB)
    · have hcc : c2 = cc := by omega
      subst hcc
      refine t_OB.to (V := updV (fun n => zV (zty c2 n) g i j (a + 1) n) k v) ⟨_, e1, q2, q3, t_set q4 hap f2 v⟩ (fun n _ => ?_)
      rw [hV n]
      rfl
    · omega
  rcases hfin with hfin | ⟨hfin, hin, hdecl⟩
  · have hlay2 := hts _ (zin_ws f1 _ (u_in_lay f2))
    unfold u_lay at hlay2
    rw [if_neg (by rw [hfin]; decide)] at hlay2
    have h7 := u_store hfc hkC hkind hlay2 hi (zty_ok f1 f2) hn hfit
    exact W.putK hx hb (f := fd) ⟨hown, hts _ f3, ⟨_, _, _, hi⟩, hst⟩ (by rw [q2]; exact h7) q1 q3 (by rw [hsl]; exact k2_hasslot (q4 k f2)) rfl rfl d fin
  · have hlay2 := hts _ (zin_ws f1 _ (u_in_lay f2))
    unfold u_lay at hlay2
    rw [if_pos hfin] at hlay2
    have hcf : m.cls = cf := by
      obtain ⟨_, _, c', _, _, _, -, -, hf', -, -, -, hown2, -⟩ := Cond.laysFinal_spec hlay2
      have e1 : c' = cf := by have := hi.symm.trans hf'; simp at this; exact this.1.symm
      rw [hdecl] at hown2
      rw [← e1]; exact Option.some.inj (hown.symm.trans hown2)
    exact W.putFinK hx hb hown (hts _ f3) hi hst hcf (hnm.trans hin) (by rw [q2]; exact h6) q1 q3 (by rw [hsl]; exact k2_hasslot (q4 k f2)) rfl rfl d fin

def zfin (y : Mt) (c k : Nat) : Prop := ((zcl c).2.1 k).2.2.2 = false ∨ (((zcl c).2.1 k).2.2.2 = true ∧ (mN y).name = "<init>" ∧ ((zcl c).2.1 k).1 = (mN y).cls)
theorem r_puti {c k idx r : Nat} {x : Int32} (d : decode (mB y) pc = .ok (.putfield idx, 3)) (f : zF (mN y).cls idx c k) (hfin : zfin y c k) (hty : zint (zty c k) = true) (hn : narrow (zty c k) (.int x) = .int x) (hfit : fits (zty c k) (.int x) = true) (ht : gT g r = c + 1)
    (kk : zR E y Z X (pc + 3) lo st g (wA i r (upd (i r) k x)) j cu su) : zR E y Z X pc lo (.int x :: .ref r :: st) g i j cu su := by
  obtain ⟨p, e, R, s, m, args, below, meth, cc⟩ := X
  intro C H locs ls hR hS hl
  obtain ⟨a, rfl⟩ := znz hR ht
  refine zput (i2 := wA i (a + 1) (upd (i (a + 1)) k x)) (g2 := g) (j2 := j) (v := .int x) C hR hS f hfin hn hfit ht d (fun _ => rfl) (fun r hr => ⟨wA_n hr, rfl, rfl, fun _ => rfl⟩) (fun n => ?_) (fun H1 locs1 h1 h2 => kk C H1 locs1 ls h1 h2 hl)
  by_cases hnk : n = k
  · subst hnk
    rw [zV_int hty, if_pos rfl, wA_s]
    simp [upd]
  · rw [if_neg hnk]
    cases hz : zty c n <;> simp [zV, wA_s, upd, hnk]
theorem r_putl {c k idx r : Nat} {x : Int64} (d : decode (mB y) pc = .ok (.putfield idx, 3)) (f : zF (mN y).cls idx c k) (hfin : zfin y c k) (hty : zty c k = .long) (ht : gT g r = c + 1)
    (kk : zR E y Z X (pc + 3) lo st g i (wB j r (vp_updL (j r) k x)) cu su) : zR E y Z X pc lo (.long x :: .ref r :: st) g i j cu su := by
  obtain ⟨p, e, R, s, m, args, below, meth, cc⟩ := X
  intro C H locs ls hR hS hl
  obtain ⟨a, rfl⟩ := znz hR ht
  refine zput (i2 := i) (g2 := g) (j2 := wB j (a + 1) (vp_updL (j (a + 1)) k x)) (v := .long x) C hR hS f hfin (by rw [hty]; rfl) (by rw [hty]; rfl) ht d (fun _ => rfl) (fun r hr => ⟨rfl, wB_n hr, rfl, fun _ => rfl⟩) (fun n => ?_) (fun H1 locs1 h1 h2 => kk C H1 locs1 ls h1 h2 hl)
  by_cases hnk : n = k
  · subst hnk
    rw [hty, if_pos rfl]
    simp [zV, wB_s, vp_updL]
  · rw [if_neg hnk]
    cases hz : zty c n <;> simp [zV, wB_s, vp_updL, hnk]
theorem r_putr {c k idx r x : Nat} (d : decode (mB y) pc = .ok (.putfield idx, 3)) (f : zF (mN y).cls idx c k) (hfin : zfin y c k) (hty : zrefty (zty c k) = true) (ht : gT g r = c + 1)
    (kk : zR E y Z X (pc + 3) lo st (wR g r k x) i j cu su) : zR E y Z X pc lo (.ref x :: .ref r :: st) g i j cu su := by
  obtain ⟨p, e, R, s, m, args, below, meth, cc⟩ := X
  intro C H locs ls hR hS hl
  obtain ⟨a, rfl⟩ := znz hR ht
  have h1 : narrow (zty c k) (va_rf (zrf x)) = va_rf (zrf x) := by
    cases h : zty c k <;> cases x <;> simp [zrefty, h] at hty <;> rfl
  have h2 : fits (zty c k) (va_rf (zrf x)) = true := by
    cases h : zty c k <;> cases x <;> simp [zrefty, h] at hty <;> rfl
  refine zput (i2 := i) (g2 := wR g (a + 1) k x) (j2 := j) (v := va_rf (zrf x)) C hR hS f hfin h1 h2 ht d (fun _ => rfl) (fun r hr => ⟨rfl, rfl, rfl, fun n => by rw [gR_wR, if_neg hr]⟩) (fun n => ?_) (fun H1 locs1 h1 h2 => kk C H1 locs1 ls h1 h2 hl)
  by_cases hnk : n = k
  · subst hnk
    rw [zV_ref hty, if_pos rfl, gR_wR, if_pos rfl, if_pos rfl]
  · rw [if_neg hnk]
    cases hz : zty c n <;> simp [zV, gR_wR, hnk]
end RULES3
/-! arrays -/
section RULES4
variable {E : Ev} {y : Mt} {Z : Fx → State → Prop} {X : Fx} {pc : Nat} {lo st : List Value} {g : Sh} {i : Ni} {j : Nj} {cu su : Nat}
theorem zone {g : Sh} {i : Ni} {j : Nj} {H : Heap} {a t : Nat} (hR : zRep E g i j H) (ht : gT g (a + 1) = t + 11) : va_P (eC E, eI E) zcls [(a, .inl (eA E t, gL g (a + 1), zct t g i j (a + 1)))] H := by
  intro k q hk
  cases k with
  | zero =>
    cases hk
    exact (hR.2.1 a t ht).2.2
  | succ k => simp at hk
theorem r_iald {r : Nat} {n : Int32} (d : decode (mB y) pc = .ok (.iaload, 1)) (ht : gT g r = 11) (hin : vp_in n (gL g r)) (kk : zR E y Z X (pc + 1) lo (.int (i r n.toNatClampNeg) :: st) g i j cu su) : zR E y Z X pc lo (.int n :: .ref r :: st) g i j cu su := by
  obtain ⟨p, e, R, s, m, args, below, meth, cc⟩ := X
  intro C H locs ls hR hS hl
  obtain ⟨a, rfl⟩ := znz hR ht
  exact va_iald C.1 C.2.1 C.2.2.2.2.2.2.1.2.1 (zone hR (t := 0) ht) 0 0 rfl rfl hin d (kk C H locs ls hR hS hl)
theorem r_bald {r : Nat} {n : Int32} (d : decode (mB y) pc = .ok (.baload, 1)) (ht : gT g r = 12) (hin : vp_in n (gL g r)) (kk : zR E y Z X (pc + 1) lo (.int (i r n.toNatClampNeg) :: st) g i j cu su) : zR E y Z X pc lo (.int n :: .ref r :: st) g i j cu su := by
  obtain ⟨p, e, R, s, m, args, below, meth, cc⟩ := X
  intro C H locs ls hR hS hl
  obtain ⟨a, rfl⟩ := znz hR ht
  exact va_bald C.1 C.2.1 C.2.2.2.2.2.2.1.2.1 (zone hR (t := 1) ht) 0 1 rfl rfl hin d (kk C H locs ls hR hS hl)
theorem r_zald {r : Nat} {n : Int32} (d : decode (mB y) pc = .ok (.baload, 1)) (ht : gT g r = 13) (hin : vp_in n (gL g r)) (kk : zR E y Z X (pc + 1) lo (.int (i r n.toNatClampNeg) :: st) g i j cu su) : zR E y Z X pc lo (.int n :: .ref r :: st) g i j cu su := by
  obtain ⟨p, e, R, s, m, args, below, meth, cc⟩ := X
  intro C H locs ls hR hS hl
  obtain ⟨a, rfl⟩ := znz hR ht
  exact va_zald C.1 C.2.1 C.2.2.2.2.2.2.1.2.1 (zone hR (t := 2) ht) 0 2 rfl rfl hin d (kk C H locs ls hR hS hl)
theorem r_aald {r v : Nat} {n : Int32} (d : decode (mB y) pc = .ok (.aaload, 1)) (ht : gT g r = 15 ∨ gT g r = 16) (hin : vp_in n (gL g r)) (hv : gR g r n.toNatClampNeg = v) (kk : zR E y Z X (pc + 1) lo (.ref v :: st) g i j cu su) : zR E y Z X pc lo (.int n :: .ref r :: st) g i j cu su := by
  subst hv
  obtain ⟨p, e, R, s, m, args, below, meth, cc⟩ := X
  intro C H locs ls hR hS hl
  rcases ht with ht | ht
  · obtain ⟨a, rfl⟩ := znz hR ht
    exact va_aldq C.1 C.2.1 C.2.2.2.2.2.2.1.2.1 (zone hR (t := 4) ht) 0 4 rfl rfl hin d (kk C H locs ls hR hS hl)
  · obtain ⟨a, rfl⟩ := znz hR ht
    exact va_aldq C.1 C.2.1 C.2.2.2.2.2.2.1.2.1 (zone hR (t := 5) ht) 0 5 rfl rfl hin d (kk C H locs ls hR hS hl)
theorem r_alen {r : Nat} (d : decode (mB y) pc = .ok (.arraylength, 1)) (ht : ∃ t, t < 6 ∧ gT g r = t + 11) (kk : zR E y Z X (pc + 1) lo (.int (nI (gL g r)) :: st) g i j cu su) : zR E y Z X pc lo (.ref r :: st) g i j cu su := by
  obtain ⟨p, e, R, s, m, args, below, meth, cc⟩ := X
  intro C H locs ls hR hS hl
  obtain ⟨t, h6, ht⟩ := ht
  obtain ⟨a, rfl⟩ := znz (t := t + 10) hR ht
  exact va_alen C.1 C.2.1 C.2.2.2.2.2.2.1.2.1 (zone hR ht) 0 t rfl (zts_at E h6) rfl d (kk C H locs ls hR hS hl)
/-- one place of an array of numbers is written -/
theorem zstore {g : Sh} {i i2 : Ni} {j j2 : Nj} {H H1 : Heap} {a t : Nat} (hR : zRep E g i j H) (ht : gT g (a + 1) = t + 11) (oq : ∀ q, q ≠ a → H1[q]? = H[q]?) (same : ∀ r, r ≠ a + 1 → i2 r = i r ∧ j2 r = j r)
    (e : H1[a]? = some (vp_cell (eA E t) (gL g (a + 1), zct t g i2 j2 (a + 1)))) : zRep E g i2 j2 H1 :=
  hR.upd (fun _ => rfl) oq (fun r hr => ⟨(same r hr).1, (same r hr).2, rfl, fun _ => rfl⟩) (fun c h1 h2 => by omega) (fun t2 h1 => by
    have : t2 = t := by omega
    subst this
    exact e)
theorem zarr {g : Sh} {i : Ni} {j : Nj} {H : Heap} {a t : Nat} (hR : zRep E g i j H) (ht : gT g (a + 1) = t + 11) : H[a]? = some (vp_cell (eA E t) (gL g (a + 1), zct t g i j (a + 1))) := (hR.2.1 a t ht).2.2
theorem zarrB {g : Sh} {i : Ni} {j : Nj} {H : Heap} {a t : Nat} (hR : zRep E g i j H) (ht : gT g (a + 1) = t + 11) : zA E a := (hR.2.1 a t ht).1
theorem r_iast {r : Nat} {n x : Int32} (d : decode (mB y) pc = .ok (.iastore, 1)) (ht : gT g r = 11) (hin : vp_in n (gL g r)) (kk : zR E y Z X (pc + 1) lo st g (wA i r (upd (i r) n.toNatClampNeg x)) j cu su) : zR E y Z X pc lo (.int x :: .int n :: .ref r :: st) g i j cu su := by
  obtain ⟨p, e, R, s, m, args, below, meth, cc⟩ := X
  intro C H locs ls hR hS hl
  obtain ⟨a, rfl⟩ := znz hR ht
  refine W.iast C.1 C.2.1 (zarr hR (t := 0) ht) ((C.2.2.2.2.2.2.1.2.1.2 0 _ rfl).1 _ (fun k => .int (i (a + 1) k))) (fun q => by cases q) (by show ¬ (_ ∨ (arrV _ _ _).slots.size ≤ _); rw [arrV_size]; exact hin) rfl rfl d fun H1 e1 z oq => ?_
  refine kk C H1 _ ls (zstore hR (t := 0) ht oq (fun r hr => ⟨wA_n hr, rfl⟩) ?_) (hS.put z oq (zarrB hR (t := 0) ht)) hl
  rw [e1]
  show some ((vp_cell _ (_, .inl _)).setSlot _ _) = some (vp_cell _ (_, .inl _))
  rw [vp_cell_i, vp_cell_i, arrV_store]
  congr 2
  funext q
  by_cases hq : q = n.toNatClampNeg
  · subst hq; simp [updV, upd, wA_s]
  · simp [updV, upd, wA_s, hq]
theorem r_bast {r : Nat} {n x : Int32} (d : decode (mB y) pc = .ok (.bastore, 1)) (ht : gT g r = 12) (hin : vp_in n (gL g r)) (kk : zR E y Z X (pc + 1) lo st g (wA i r (upd (i r) n.toNatClampNeg x.toInt8.toInt32)) j cu su) : zR E y Z X pc lo (.int x :: .int n :: .ref r :: st) g i j cu su := by
  obtain ⟨p, e, R, s, m, args, below, meth, cc⟩ := X
  intro C H locs ls hR hS hl
  obtain ⟨a, rfl⟩ := znz hR ht
  refine W.bast C.1 C.2.1 (zarr hR (t := 1) ht) ((C.2.2.2.2.2.2.1.2.1.2 1 _ rfl).1 _ (fun k => .int (i (a + 1) k))) (fun q => by cases q) (by show ¬ (_ ∨ (arrV _ _ _).slots.size ≤ _); rw [arrV_size]; exact hin) rfl rfl d fun H1 e1 z oq => ?_
  refine kk C H1 _ ls (zstore hR (t := 1) ht oq (fun r hr => ⟨wA_n hr, rfl⟩) ?_) (hS.put z oq (zarrB hR (t := 1) ht)) hl
  rw [e1]
  show some ((vp_cell _ (_, .inl _)).setSlot _ _) = some (vp_cell _ (_, .inl _))
  rw [vp_cell_i, vp_cell_i, arrV_store]
  congr 2
  funext q
  by_cases hq : q = n.toNatClampNeg
  · subst hq; simp [updV, upd, wA_s, narrow]
  · simp [updV, upd, wA_s, hq]
theorem r_zast {r : Nat} {n x : Int32} (d : decode (mB y) pc = .ok (.bastore, 1)) (ht : gT g r = 13) (hin : vp_in n (gL g r)) (kk : zR E y Z X (pc + 1) lo st g (wA i r (upd (i r) n.toNatClampNeg (x &&& 1))) j cu su) : zR E y Z X pc lo (.int x :: .int n :: .ref r :: st) g i j cu su := by
  obtain ⟨p, e, R, s, m, args, below, meth, cc⟩ := X
  intro C H locs ls hR hS hl
  obtain ⟨a, rfl⟩ := znz hR ht
  refine W.zast C.1 C.2.1 (zarr hR (t := 2) ht) ((C.2.2.2.2.2.2.1.2.1.2 2 _ rfl).1 _ (fun k => .int (i (a + 1) k))) (fun q => by cases q) (by show ¬ (_ ∨ (arrV _ _ _).slots.size ≤ _); rw [arrV_size]; exact hin) rfl rfl d fun H1 e1 z oq => ?_
  refine kk C H1 _ ls (zstore hR (t := 2) ht oq (fun r hr => ⟨wA_n hr, rfl⟩) ?_) (hS.put z oq (zarrB hR (t := 2) ht)) hl
  rw [e1]
  show some ((vp_cell _ (_, .inl _)).setSlot _ _) = some (vp_cell _ (_, .inl _))
  rw [vp_cell_i, vp_cell_i, arrV_store]
  congr 2
  funext q
  by_cases hq : q = n.toNatClampNeg
  · subst hq; simp [updV, upd, wA_s, narrow]
  · simp [updV, upd, wA_s, hq]
theorem r_aast {r v c t : Nat} {n : Int32} (d : decode (mB y) pc = .ok (.aastore, 1)) (ht : gT g r = t + 11) (hv : gT g v = c + 1) (hct : (t = 4 ∧ c = 2) ∨ (t = 5 ∧ c = 0)) (hin : vp_in n (gL g r)) (kk : zR E y Z X (pc + 1) lo st (wR g r n.toNatClampNeg v) i j cu su) : zR E y Z X pc lo (.ref v :: .int n :: .ref r :: st) g i j cu su := by
  obtain ⟨p, e, R, s, m, args, below, meth, cc⟩ := X
  intro C H locs ls hR hS hl
  obtain ⟨a, rfl⟩ := znz (t := t + 10) hR ht
  obtain ⟨b, rfl⟩ := znz hR hv
  have h6 : t < 6 := by omega
  have hc6 : c < 6 := by omega
  have hE := C.2.2.2.2.2.2.1.2.1
  obtain ⟨-, -, cellV, g1, g2, g3, -⟩ := hR.1 b c hv (by omega)
  have hcls := (hE.1 c _ (zcl_at hc6)).2
  have hra := (hE.2 t _ (zts_at E h6)).2
  have hz : zar t = .object (zcl c).1 := by rcases hct with ⟨rfl, rfl⟩ | ⟨rfl, rfl⟩ <;> rfl
  have hzc : ∀ (i' : Ni) (g' : Sh), zct t g' i' j (a + 1) = .inr (.inr (.inr (.inr (fun k => zrf (gR g' (a + 1) k))))) := by
    intro i' g'; rcases hct with ⟨rfl, rfl⟩ | ⟨rfl, rfl⟩ <;> rfl
  rw [show (eA E t, zar t).2 = FieldType.object (zcl c).1 from hz] at hra
  obtain ⟨kA, comp, k1, k2, k3, -⟩ := hra
  have hcomp : comp = eC E c := Option.some.inj (k3.symm.trans hcls.1)
  subst hcomp
  obtain ⟨kC, hkC, -⟩ := id hcls.2
  have h0 : ¬ n < 0 := fun q => hin (Or.inl q)
  have hlt : n.toNatClampNeg < gL g (a + 1) := Nat.not_le.mp fun q => hin (Or.inr q)
  have hcell := zarr hR ht
  rw [hzc i g] at hcell
  refine W.aast C.1 C.2.1 hcell (fun q h => by cases h) (fun h => by cases h) k1 k2 rfl hkC ⟨h0, by show _ < (arrV _ _ _).slots.size; rw [arrV_size]; exact hlt⟩ g1 (fun q h => by rw [g3] at h; cases h) (by rw [g2]; exact hkC) (by rw [g2]; exact va_assign hcls) rfl rfl d fun H1 e1 z oq => ?_
  refine kk C H1 _ ls (hR.upd (fun _ => rfl) oq (fun r hr => ⟨rfl, rfl, rfl, fun k => by rw [gR_wR, if_neg hr]⟩) (fun c h1 h2 => by omega) (fun t2 h1 => ?_)) (hS.put z oq (zarrB hR ht)) hl
  have : t2 = t := by omega
  subst this
  rw [e1, hzc i]
  rw [vp_cell_q, vp_cell_q, arrV_store]
  congr 2
  funext q
  by_cases hq : q = n.toNatClampNeg
  · subst hq; simp [updV, gR_wR]; rfl
  · simp [updV, gR_wR, hq]
/-! new cells -/
theorem zfresh {g : Sh} {i : Ni} {j : Nj} {H : Heap} (hR : zRep E g i j H) : gT g (H.size + 1) = 0 := by
  by_cases h : gT g (H.size + 1) = 0
  · exact h
  · exact absurd (hR.lt h) (Nat.lt_irrefl _)
theorem zS_push {A : Nat → Prop} {H0 H H1 : Heap} {locs : List Loc} (h : va_S A H0 H locs) (hz : H.size ≤ H1.size) (oq : ∀ q, q < H.size → H1[q]? = H[q]?) : va_S A H0 H1 locs :=
  ⟨Nat.le_trans h.1 hz, fun q h1 h2 => (oq q (Nat.lt_of_lt_of_le h1 h.1)).trans (h.2.1 q h1 h2), h.2.2⟩
def zNw (own : String) (idx c n : Nat) : Prop := c < 6 ∧ Cond.classLink own idx (zcl c).1 ∈ lw_good ∧ Cond.instantiable (zcl c).1 n ∈ lw_good ∧ Cond.initialized (zcl c).1 ∈ lw_good
theorem ztys : ∀ c, c < 6 → ∀ k, k < (zcl c).2.2 → (zint (zty c k) || zrefty (zty c k) || decide (zty c k = .long)) = true := by decide +kernel
theorem zborn {ty : FieldType} (h : (zint ty || zrefty ty || decide (ty = .long)) = true) {g : Sh} {i : Ni} {j : Nj} {r k : Nat} (hi : i r k = 0) (hj : j r k = 0) (hg : gR g r k = 0) : defaultValue ty = zV ty g i j r k := by
  cases ty <;> simp [zint, zrefty] at h <;> simp [zV, defaultValue, hi, hj, hg, zrf, va_rf]
theorem r_new {c idx n : Nat} (d : decode (mB y) pc = .ok (.new idx, 3)) (hw : zNw (mN y).cls idx c n) (hcu : Nat.ble (cu + 1) (mM y).cells = true) (hsu : Nat.ble (su + n) (mM y).slots = true)
    (kk : ∀ r : Nat, r ≠ 0 → gT g r = 0 → zR E y Z X (pc + 3) lo (.ref r :: st) (wN g r (c + 1) 0) (wA i r (fun _ => 0)) (wB j r (fun _ => 0)) (cu + 1) (su + n)) : zR E y Z X pc lo st g i j cu su := by
  obtain ⟨p, e, R, s, m, args, below, meth, cc⟩ := X
  intro C H locs ls hR hS hl
  obtain ⟨hx, hb, -, -, hown, hts, hE, -, hRm, -⟩ := id C
  obtain ⟨w1, w2, w3, w4⟩ := hw
  have hfr := zfresh hR
  refine W.newc (C := (zcl c).1) (n := n) hx hb hown (hts _ w2) (hts _ w3) (hts _ w4) rfl d (by rw [hRm]; exact Nat.le_of_ble_eq_true hcu) (by rw [hRm]; exact Nat.le_of_ble_eq_true hsu) fun cC kC h1 h2 h3 h4 => ?_
  generalize hH1 : H.push ({ cls := cC, slots := kC.instanceTypes.map defaultValue, vm := .none } : Cell) = H1
  have z1 : H1.size = H.size + 1 := by rw [← hH1, Array.size_push]
  have e1 : H1[H.size]? = some (blank cC kC) := by rw [← hH1, Array.getElem?_push_size]; rfl
  have o1 : ∀ q : Nat, q < H.size → H1[q]? = H[q]? := fun q hq => by rw [← hH1, Array.getElem?_push, if_neg (Nat.ne_of_lt hq)]
  have hKn := hE.2.1.1 c _ (zcl_at w1)
  have hcC : cC = eC E c := Option.some.inj (h1.symm.trans hKn.2.1)
  subst hcC
  have hob := u_born (zty c) hts (zin_ws w1) hKn h2 e1 (fun k hk => zty_ok w1 hk)
  refine kk (H.size + 1) (Nat.succ_ne_zero _) hfr C H1 locs ls (hR.grow (tg := c + 1) (Nat.le_trans hE.2.2.1 hS.1) hfr (fun r => rfl) o1 (fun r hr => ⟨wA_n hr, wB_n hr, by rw [gL_wN, if_neg hr], fun k => by rw [gR_wN, if_neg hr]⟩) (fun c2 h5 h6 => ?_) (fun t h5 => by omega)) (zS_push hS (by omega) o1) hl
  have : c2 = c := by omega
  subst this
  refine ⟨w1, hob.to fun k hk => zborn (ztys _ w1 k hk) (by simp [wA_s]) (by simp [wB_s]) (by rw [gR_wN, if_pos rfl])⟩
def zNa (t : Nat) : Prop := Cond.arrayClass (zar t) ∈ lw_good
theorem r_newa {t N : Nat} {n : Int32} {at' : ArrayType} (d : decode (mB y) pc = .ok (.newarray at', 2)) (hty : newarray.typeOf at' = zar t) (ht : t < 3) (hw : zNa t) (h0 : ¬ n < 0) (hN : n.toNatClampNeg = N) (hb9 : Nat.ble (N * 8) 536870912 = true) (hcu : Nat.ble (cu + 1) (mM y).cells = true) (hsu : Nat.ble (su + N) (mM y).slots = true)
    (kk : ∀ r : Nat, r ≠ 0 → gT g r = 0 → zR E y Z X (pc + 2) lo (.ref r :: st) (wN g r (t + 11) N) (wA i r (fun _ => 0)) (wB j r (fun _ => 0)) (cu + 1) (su + N)) : zR E y Z X pc lo (.int n :: st) g i j cu su := by
  obtain ⟨p, e, R, s, m, args, below, meth, cc⟩ := X
  intro C H locs ls hR hS hl
  obtain ⟨hx, hb, -, -, hown, hts, hE, -, hRm, -⟩ := id C
  have hfr := zfresh hR
  have hcb : componentBytes (newarray.typeOf at') ≤ 8 := by
    rw [hty]
    rcases (show t = 0 ∨ t = 1 ∨ t = 2 by omega) with rfl | rfl | rfl <;> decide
  refine va_newaK hx hb (by rw [hty]; exact hts _ hw) rfl d rfl h0 hN (Nat.le_trans (Nat.mul_le_mul_left N hcb) (Nat.le_of_ble_eq_true hb9)) (by rw [hRm]; exact Nat.le_of_ble_eq_true hcu) (by rw [hRm]; exact Nat.le_of_ble_eq_true hsu) rfl fun H1 cA e1 z1 o1 hAr hfc => ?_
  have hra := (hE.2.1.2 t _ (zts_at E (show t < 6 by omega))).2
  have hcA : cA = eA E t := by
    rw [hty] at hfc
    rcases (show t = 0 ∨ t = 1 ∨ t = 2 by omega) with rfl | rfl | rfl <;> exact Option.some.inj (hfc.symm.trans hra)
  subst hcA
  refine kk (H.size + 1) (Nat.succ_ne_zero _) hfr C H1 locs ls (hR.grow (tg := t + 11) (Nat.le_trans hE.2.2.1 hS.1) hfr (fun r => rfl) o1 (fun r hr => ⟨wA_n hr, wB_n hr, by rw [gL_wN, if_neg hr], fun k => by rw [gR_wN, if_neg hr]⟩) (fun c2 h5 h6 => by omega) (fun t2 h5 => ?_)) (zS_push hS (by omega) o1) hl
  have : t2 = t := by omega
  subst this
  refine ⟨by omega, ?_⟩
  rw [e1, gL_wN, if_pos rfl, hty]
  rcases (show t2 = 0 ∨ t2 = 1 ∨ t2 = 2 by omega) with rfl | rfl | rfl <;> simp only [zct, wA_s, wB_s] <;> rfl
theorem r_anew {t idx N : Nat} {n : Int32} (d : decode (mB y) pc = .ok (.anewarray idx, 3)) (ht : t = 4 ∨ t = 5) (hw : ∃ C, zar t = .object C ∧ Cond.classLink (mN y).cls idx C ∈ lw_good) (h0 : ¬ n < 0) (hN : n.toNatClampNeg = N) (hb9 : Nat.ble (N * 8) 536870912 = true) (hcu : Nat.ble (cu + 1) (mM y).cells = true) (hsu : Nat.ble (su + N) (mM y).slots = true)
    (kk : ∀ r : Nat, r ≠ 0 → gT g r = 0 → zR E y Z X (pc + 3) lo (.ref r :: st) (wN g r (t + 11) N) (wA i r (fun _ => 0)) (wB j r (fun _ => 0)) (cu + 1) (su + N)) : zR E y Z X pc lo (.int n :: st) g i j cu su := by
  subst hN
  obtain ⟨p, e, R, s, m, args, below, meth, cc⟩ := X
  intro C H locs ls hR hS hl
  obtain ⟨hx, hb, -, -, hown, hts, hE, -, hRm, -⟩ := id C
  obtain ⟨Cn, hz, hlk⟩ := hw
  have hfr := zfresh hR
  have hAO : va_AO Cn s := by
    obtain ⟨q1, q2⟩ := hE.2.2.2.2.2.2.2.1
    rcases ht with rfl | rfl
    · cases hz; exact q1
    · cases hz; exact q2
  refine W.anew (C := Cn) hx hb hown (hts _ hlk) (va_AO.use hAO) rfl d rfl h0 (by have := Nat.le_of_ble_eq_true hb9; omega) (by rw [hRm]; exact Nat.le_of_ble_eq_true hcu) (by rw [hRm]; exact Nat.le_of_ble_eq_true hsu) fun cA kA comp f1 f2 f3 f4 => ?_
  generalize hH1 : H.push ({ cls := cA, slots := Array.replicate n.toNatClampNeg .null, vm := .none } : Cell) = H1
  have z1 : H1.size = H.size + 1 := by rw [← hH1, Array.size_push]
  have e1 : H1[H.size]? = some (arrV cA n.toNatClampNeg (fun _ => .null)) := by rw [← hH1, Array.getElem?_push_size, ← arrV_new]
  have o1 : ∀ q : Nat, q < H.size → H1[q]? = H[q]? := fun q hq => by rw [← hH1, Array.getElem?_push, if_neg (Nat.ne_of_lt hq)]
  have hra := (hE.2.1.2 t _ (zts_at E (show t < 6 by omega))).2
  have hcA : cA = eA E t := by
    rw [show (eA E t, zar t).2 = FieldType.object Cn from hz] at hra
    obtain ⟨_, _, _, _, _, k4⟩ := hra
    exact Option.some.inj (f1.symm.trans k4)
  subst hcA
  refine kk (H.size + 1) (Nat.succ_ne_zero _) hfr C H1 locs ls (hR.grow (tg := t + 11) (Nat.le_trans hE.2.2.1 hS.1) hfr (fun r => rfl) o1 (fun r hr => ⟨wA_n hr, wB_n hr, by rw [gL_wN, if_neg hr], fun k => by rw [gR_wN, if_neg hr]⟩) (fun c2 h5 h6 => by omega) (fun t2 h5 => ?_)) (zS_push hS (by omega) o1) hl
  have : t2 = t := by omega
  subst this
  refine ⟨by omega, ?_⟩
  rw [e1, gL_wN, if_pos rfl]
  rcases ht with rfl | rfl <;> simp only [zct, gR_wN, if_true, zrf] <;> rfl
end RULES4
/-! ends, throws, calls -/
section RULES5
variable {E : Ev} {y : Mt} {Z : Fx → State → Prop} {X : Fx} {pc : Nat} {lo st : List Value} {g : Sh} {i : Ni} {j : Nj} {cu su : Nat} {Q : Kp}
theorem r_iret {x : Int32} {ty : FieldType} (d : decode (mB y) pc = .ok (.ireturn, 1)) (hr : mR y = some ty) (hn : narrow ty (.int x) = .int x) (hcu : Nat.ble cu (mM y).cells = true) (hsu : Nat.ble su (mM y).slots = true) (hq : Q (.inl (some (.int x))) g i j) : zR E y (zZ E y Q) X pc lo [.int x] g i j cu su := by
  obtain ⟨p, e, R, s, m, args, below, meth, cc⟩ := X
  intro C H locs ls hR hS hl
  refine W.widen (Nat.le_of_ble_eq_true hcu) (Nat.le_of_ble_eq_true hsu) ?_
  exact vx_ret (W.zret C.1 C.2.1 (C.2.2.1.trans hr) hn (fun t ht _ => ⟨some (.int x), g, i, j, rfl, by rw [ht]; exact hR, hq, hS.F ht⟩) hS.2.2 d C.2.2.2.2.2.2.2.1)
theorem r_vret (d : decode (mB y) pc = .ok (.return_, 1)) (hr : mR y = none) (hcu : Nat.ble cu (mM y).cells = true) (hsu : Nat.ble su (mM y).slots = true) (hq : Q (.inl none) g i j) : zR E y (zZ E y Q) X pc lo [] g i j cu su := by
  obtain ⟨p, e, R, s, m, args, below, meth, cc⟩ := X
  intro C H locs ls hR hS hl
  refine W.widen (Nat.le_of_ble_eq_true hcu) (Nat.le_of_ble_eq_true hsu) ?_
  exact vx_ret (W.vret C.1 C.2.1 (C.2.2.1.trans hr) (fun t ht _ => ⟨none, g, i, j, rfl, by rw [ht]; exact hR, hq, hS.F ht⟩) hS.2.2 d C.2.2.2.2.2.2.2.1)
theorem r_vretI (d : decode (mB y) pc = .ok (.return_, 1)) (hr : mR y = none) (hcu : Nat.ble cu (mM y).cells = true) (hsu : Nat.ble su (mM y).slots = true) (hq : Q (.inl none) g i j) : zR E y (zZI E y Q) X pc lo [] g i j cu su := by
  obtain ⟨p, e, R, s, m, args, below, meth, cc⟩ := X
  intro C H locs ls hR hS hl
  refine W.widen (Nat.le_of_ble_eq_true hcu) (Nat.le_of_ble_eq_true hsu) ?_
  exact W.vret C.1 C.2.1 (C.2.2.1.trans hr) (fun t ht _ => ⟨none, g, i, j, rfl, by rw [ht]; exact hR, hq, hS.F ht⟩) hS.2.2 d C.2.2.2.2.2.2.2.1
theorem r_aret {x : Nat} {rt : FieldType} (d : decode (mB y) pc = .ok (.areturn, 1)) (hr : mR y = some rt) (hrt : zrefty rt = true) (hcu : Nat.ble cu (mM y).cells = true) (hsu : Nat.ble su (mM y).slots = true) (hq : Q (.inl (some (.ref x))) g i j) : zR E y (zZ E y Q) X pc lo [.ref x] g i j cu su := by
  obtain ⟨p, e, R, s, m, args, below, meth, cc⟩ := X
  intro C H locs ls hR hS hl
  refine W.widen (Nat.le_of_ble_eq_true hcu) (Nat.le_of_ble_eq_true hsu) ?_
  refine vx_ret (W.aret (v := cv (.ref x)) C.1 C.2.1 (C.2.2.1.trans hr) ?_ ?_ (fun t ht _ => ⟨some (.ref x), g, i, j, rfl, by rw [ht]; exact hR, hq, hS.F ht⟩) hS.2.2 d C.2.2.2.2.2.2.2.1)
  · cases rt <;> simp [zrefty] at hrt <;> simp
  · cases x with
    | zero => exact Or.inl rfl
    | succ n => exact Or.inr ⟨n, rfl⟩
theorem r_lret {x : Int64} (d : decode (mB y) pc = .ok (.lreturn, 1)) (hr : mR y = some .long) (hcu : Nat.ble cu (mM y).cells = true) (hsu : Nat.ble su (mM y).slots = true) (hq : Q (.inl (some (.long x))) g i j) : zR E y (zZ E y Q) X pc lo [.long x] g i j cu su := by
  obtain ⟨p, e, R, s, m, args, below, meth, cc⟩ := X
  intro C H locs ls hR hS hl
  refine W.widen (Nat.le_of_ble_eq_true hcu) (Nat.le_of_ble_eq_true hsu) ?_
  exact vx_ret (W.lret C.1 C.2.1 (C.2.2.1.trans hr) (fun t ht _ => ⟨some (.long x), g, i, j, rfl, by rw [ht]; exact hR, hq, hS.F ht⟩) hS.2.2 d C.2.2.2.2.2.2.2.1)
theorem r_fret {x : UInt32} (d : decode (mB y) pc = .ok (.freturn, 1)) (hr : mR y = some .float) (hcu : Nat.ble cu (mM y).cells = true) (hsu : Nat.ble su (mM y).slots = true) (hq : Q (.inl (some (.float x))) g i j) : zR E y (zZ E y Q) X pc lo [.float x] g i j cu su := by
  obtain ⟨p, e, R, s, m, args, below, meth, cc⟩ := X
  intro C H locs ls hR hS hl
  refine W.widen (Nat.le_of_ble_eq_true hcu) (Nat.le_of_ble_eq_true hsu) ?_
  exact vx_ret (W.fret C.1 C.2.1 (C.2.2.1.trans hr) (fun t ht _ => ⟨some (.float x), g, i, j, rfl, by rw [ht]; exact hR, hq, hS.F ht⟩) hS.2.2 d C.2.2.2.2.2.2.2.1)
theorem r_dret {x : UInt64} (d : decode (mB y) pc = .ok (.dreturn, 1)) (hr : mR y = some .double) (hcu : Nat.ble cu (mM y).cells = true) (hsu : Nat.ble su (mM y).slots = true) (hq : Q (.inl (some (.double x))) g i j) : zR E y (zZ E y Q) X pc lo [.double x] g i j cu su := by
  obtain ⟨p, e, R, s, m, args, below, meth, cc⟩ := X
  intro C H locs ls hR hS hl
  refine W.widen (Nat.le_of_ble_eq_true hcu) (Nat.le_of_ble_eq_true hsu) ?_
  exact vx_ret (W.dret C.1 C.2.1 (C.2.2.1.trans hr) (fun t ht _ => ⟨some (.double x), g, i, j, rfl, by rw [ht]; exact hR, hq, hS.F ht⟩) hS.2.2 d C.2.2.2.2.2.2.2.1)
/-- thrown through -/
theorem t_out {ec : Nat} (hH : mH y = []) (hcu : Nat.ble cu (mM y).cells = true) (hsu : Nat.ble su (mM y).slots = true) (hq : Q (.inr ec) g i j) : zT E y (zZ E y Q) X pc lo ec g i j cu su := by
  obtain ⟨p, e, R, s, m, args, below, meth, cc⟩ := X
  intro C H locs ls q ce st2 hR hS hl hq9 hv hcl
  have ht := C.2.2.2.2.2.2.2.2.2.1
  rw [hH] at ht
  exact vx_out (E := zexn ec) (fun x hx => by rw [ht] at hx; cases hx) C.2.2.2.2.2.2.2.1 hq9 hv hcl (fun t h1 _ => ⟨ec, g, i, j, rfl, by rw [h1]; exact hR, hq, hS.F h1⟩) hS.2.2 (Nat.le_of_ble_eq_true hcu) (Nat.le_of_ble_eq_true hsu)
/-- what a call owes behind it -/
def zK (E : Ev) (y : Mt) (Z : Fx → State → Prop) (X : Fx) (pc : Nat) (lo st : List Value) (cu su : Nat) : Kp := fun o g i j => match o with
  | .inl (some v) => zR E y Z X (pc + 3) lo (v :: st) g i j cu su
  | .inl none => zR E y Z X (pc + 3) lo st g i j cu su
  | .inr ec => zT E y Z X pc lo ec g i j cu su
theorem zKeep {st₀ t T' : State} {L : List Loc} {H0 H : Heap} {A : Nat → Prop} {locs : List Loc} (h0 : st₀.heap = H) (e1 : T'.heap = t.heap) (hS : va_S A H0 H locs) (hL : ∀ q ∈ L, A q.base) (hF : va_F A st₀ t) : va_S A H0 T'.heap (locs ++ L) :=
  (vx_keep h0 e1 hS (fun _ _ h => h) (fun _ h => h) hL hF).2.2
theorem zgo {p : Program} {e : Env} {R : Room} {s : State} {m : MethodId} {args a9 : Array Value} {below : List Frame} {meth : Method} {c : Code} {H : Heap} {locs : List Loc} {ls : Array Slot} {st0 : List Value} {mc ms : Nat}
    (hr : vx_Run p (eL E) e R s m args below meth c H locs cu su mc ms (F0 m pc ls st0) (cvs st) (zQc E (zK E y Z (p, e, R, s, m, args, below, meth, c) pc lo st (cu + mc) (su + ms)) a9) (zXC E (zK E y Z (p, e, R, s, m, args, below, meth, c) pc lo st (cu + mc) (su + ms))) (zA E))
    (C : zCtx E y (p, e, R, s, m, args, below, meth, c)) (hS : va_S (zA E) s.heap H locs) (hl : zlo ls (mL y) lo) : W p (eL E) e R s m args below meth c H locs cu su (Z (p, e, R, s, m, args, below, meth, c)) (F0 m pc ls st0) := by
  intro T hT X
  rcases hr T hT X with ⟨v, st₀, t, T', L, h0, X', hL, e1, e2, ⟨v2, g2, i2, j2, hv, hrep, hk, hF⟩, stp⟩ | ⟨q, st₀, t, T', L, En, ce, h0, X', hL, e1, e2, ⟨ec, g2, i2, j2, hec, hrep, hk, hF⟩, hce, hcv, hcl, stp⟩
  · cases Outcome.returned.inj hv
    have hS' := zKeep h0 e1 hS hL hF
    cases v2 with
    | none =>
      obtain ⟨t2, a1, b1⟩ := hk C T'.heap (locs ++ L) ls (by rw [e1]; exact hrep) hS' hl T' rfl X'
      exact ⟨t2, stp t2 a1, b1⟩
    | some v =>
      obtain ⟨t2, a1, b1⟩ := hk C T'.heap (locs ++ L) ls (by rw [e1]; exact hrep) hS' hl T' rfl X'
      exact ⟨t2, stp t2 a1, b1⟩
  · have hS' := zKeep h0 e1 hS hL hF
    subst hec
    obtain ⟨t2, a1, b1⟩ := hk C T'.heap (locs ++ L) ls q ce (cvs st) (by rw [e1]; exact hrep) hS' hl (by rw [e1]; exact hce) hcv hcl T' rfl X'
    exact ⟨t2, stp.trans a1, b1⟩
theorem zblind {as : List Value} : FrameBlind (zPc E as g i j) := fun _ _ _ _ q => ⟨q.1, q.2.1.calling, q.2.2⟩
/-- the words of a call -/
def zCB (own : String) (idx : Nat) (y2 : Mt) (n : Nat) : Prop := Cond.methodLink own idx (mN y2) ∈ lw_good ∧ Cond.initialized (mN y2).cls ∈ lw_good ∧ zcode y2 ∈ lw_good ∧ ((mN y2).cls ≠ "java/lang/invoke/MethodHandle" ∧ (mN y2).cls ≠ "java/lang/invoke/VarHandle") ∧ (parseMethodDescriptor (mN y2).desc).map (fun d => d.parameters.length) = some n
def zCV (own : String) (idx : Nat) (y2 : Mt) (n : Nat) : Prop := zCB own idx y2 n ∧ Cond.instanceMethod (mN y2) ∈ lw_good ∧ Cond.selects (mN y2).cls (mN y2) (mN y2) ∈ lw_good
def zCS (own : String) (idx : Nat) (y2 : Mt) (n : Nat) : Prop := zCB own idx y2 n ∧ Cond.static (mN y2) ∈ lw_good
def zCI (own : String) (idx : Nat) (y2 : Mt) (n : Nat) : Prop := zCB own idx y2 n ∧ Cond.instanceMethod (mN y2) ∈ lw_good ∧ (mN y2).name = "<init>" ∧ mR y2 = none
def zfit (y y2 : Mt) : Bool := Nat.ble ((mM y2).frames + 1) (mM y).frames && Nat.ble (8 + (mL y2 + 11) + (mM y2).locals) (mM y).locals
theorem zgw {w : Cond} (h : w ∈ lw_good) : (w.onTables && w.keeps) = true ∨ ∃ ty, w = .arrayClass ty := good_of_word (List.mem_filter.mp h).2
theorem zwsat {s : State} {args : Array Value} {y2 : Mt} (hts : ∀ w ∈ lw_good, w.before args s = true) (hc : zcode y2 ∈ lw_good) : ∀ w ∈ zws y2, ∀ (a' : Array Value) (U : State), s.WarmedH U.vm → w.before a' U = true := by
  intro w hw a' U hW
  have h : w ∈ lw_good := by
    rcases List.mem_cons.mp hw with h | h
    · rw [h]; exact hc
    · exact h
  exact word_at hW (zgw h) (hts w h)
theorem zcb {own : String} {idx n : Nat} {y2 : Mt} {s : State} {args : Array Value} {R : Room} (hH : mH y2 = []) (h : zCB own idx y2 n) (hts : ∀ w ∈ lw_good, w.before args s = true) (hR : R = mM y) (hf : zfit y y2 = true) : CallB R s args own idx (mN y2) (mB y2) (mL y2) (mR y2) (zws y2) (mM y2) (mM y2).cells (mM y2).slots n := by
  obtain ⟨h1, h2, h3, h4, h5⟩ := h
  have hc : zcode y2 = .code (mN y2) (mB y2) (mL y2) (mR y2) := by unfold zcode; rw [hH]
  simp only [zfit, Bool.and_eq_true] at hf
  subst hR
  refine ⟨rfl, rfl, Nat.le_of_ble_eq_true hf.1, Nat.le_of_ble_eq_true hf.2, zwsat hts h3, ?_, ?_, hts _ h2, h4, fun sig h => ?_, hts _ h1⟩
  · rw [← hc]; exact List.mem_cons_self
  · rw [← hc]; exact hts _ h3
  · rw [h] at h5
    exact (Option.some.inj h5).symm
theorem zpre {s U : State} {H : Heap} {locs : List Loc} {as : List Value} (hE : zEnv E s) (hR : zRep E g i j H) (hS : va_S (zA E) s.heap H locs) (hU : U.heap = H) (hW : s.WarmedH U.vm) : zPc E as g i j (cvs as).toArray U :=
  ⟨rfl, hE.moved hW (by rw [hU]; exact hS.1) (fun q h1 h2 => by rw [hU]; exact hS.2.1 q h1 h2), by rw [hU]; exact hR⟩
theorem zsum (st : List Value) : ((cvs st).map fun v => v.category).sum = (st.map fun v => v.category).sum := by
  induction st with
  | nil => rfl
  | cons v l ih => simp only [cvs, List.map_cons, List.sum_cons, cv_cat] at ih ⊢; rw [ih]
theorem zroom {m : MethodId} {ls : Array Slot} {st0 : List Value} (hw : Nat.ble ((st.map fun v => v.category).sum) 8 = true) : 2 * (F0 m pc ls st0).monitorRoom + ((cvs st).map fun v => v.category).sum ≤ 8 := by
  rw [zsum]
  have := Nat.le_of_ble_eq_true hw
  show 2 * 0 + _ ≤ 8
  omega
/-- a virtual call -/
theorem r_callv {y2 : Mt} {as : List Value} {r n c idx cu2 su2 : Nat} {st0 : List Value} (d : decode (mB y) pc = .ok (.invokevirtual idx, 3)) (k : zCV (mN y).cls idx y2 n) (hst : st0 = as.reverse ++ .ref r :: st) (hn : as.length = n) (hH : mH y2 = []) (hf : zfit y y2 = true)
    (ht : gT g r = c + 1) (hc6 : c < 6) (hcn : (zcl c).1 = (mN y2).cls) (hw : Nat.ble ((st.map fun v => v.category).sum) 8 = true) (hcu : cu + (mM y2).cells = cu2) (hsu : su + (mM y2).slots = su2) (hcu2 : Nat.ble cu2 (mM y).cells = true) (hsu2 : Nat.ble su2 (mM y).slots = true)
    (hC : zCon E y2 (.ref r :: as) g i j (zK E y Z X pc lo st cu2 su2)) : zR E y Z X pc lo st0 g i j cu su := by
  subst hcu; subst hsu; subst hst
  obtain ⟨p, e, R, s, m, args, below, meth, cc⟩ := X
  intro C H locs ls hR hS hl
  obtain ⟨hx, hb, -, hml, hown, hts, hE, -, hRm, -⟩ := id C
  obtain ⟨a, rfl⟩ := znz hR ht
  obtain ⟨-, -, cell, q1, q2, q3, -⟩ := hR.1 a c ht (by omega)
  have hcls := (hE.2.1.1 c _ (zcl_at hc6)).2.1
  rw [hcn] at hcls
  refine zgo (st := st) (a9 := (cvs (.ref (a + 1) :: as)).toArray) (mc := (mM y2).cells) (ms := (mM y2).slots) ?_ C hS hl
  exact vx_runV (C := (mN y2).cls) (n := n) (index := idx) (nL := mL y) (As := cvs as) (b := a) ⟨hx, hb, hml, hown, hts⟩ hC ⟨zcb hH k.1 hts hRm hf, hts _ k.2.1, hts _ k.2.2⟩
    ⟨zblind, ⟨cell, q1, by rw [q3]; rfl, by rw [q2]; exact hcls⟩, fun U hU hW => zpre (as := .ref (a + 1) :: as) hE hR hS hU hW⟩ rfl (by rw [← hn]; simp [cvs]) hl.1 (by simp [cvs, cv, zrf, va_rf]) (zroom hw) d ⟨by rw [hRm]; exact Nat.le_of_ble_eq_true hcu2, by rw [hRm]; exact Nat.le_of_ble_eq_true hsu2⟩
theorem r_calls {y2 : Mt} {as : List Value} {n idx cu2 su2 : Nat} {st0 : List Value} (d : decode (mB y) pc = .ok (.invokestatic idx, 3)) (k : zCS (mN y).cls idx y2 n) (hst : st0 = as.reverse ++ st) (hn : as.length = n) (hH : mH y2 = []) (hf : zfit y y2 = true)
    (hw : Nat.ble ((st.map fun v => v.category).sum) 8 = true) (hcu : cu + (mM y2).cells = cu2) (hsu : su + (mM y2).slots = su2) (hcu2 : Nat.ble cu2 (mM y).cells = true) (hsu2 : Nat.ble su2 (mM y).slots = true)
    (hC : zCon E y2 as g i j (zK E y Z X pc lo st cu2 su2)) : zR E y Z X pc lo st0 g i j cu su := by
  subst hcu; subst hsu; subst hst
  obtain ⟨p, e, R, s, m, args, below, meth, cc⟩ := X
  intro C H locs ls hR hS hl
  obtain ⟨hx, hb, -, hml, hown, hts, hE, -, hRm, -⟩ := id C
  refine zgo (st := st) (a9 := (cvs as).toArray) (mc := (mM y2).cells) (ms := (mM y2).slots) ?_ C hS hl
  exact vx_runS (n := n) (index := idx) (nL := mL y) (As := cvs as) ⟨hx, hb, hml, hown, hts⟩ hC ⟨zcb hH k.1 hts hRm hf, hts _ k.2⟩
    ⟨zblind, fun U hU hW => zpre hE hR hS hU hW⟩ rfl (by rw [← hn]; simp [cvs]) hl.1 (by simp [cvs]) (zroom hw) d ⟨by rw [hRm]; exact Nat.le_of_ble_eq_true hcu2, by rw [hRm]; exact Nat.le_of_ble_eq_true hsu2⟩
/-- .. of a method with a table -/
theorem r_callsH {y2 : Mt} {as : List Value} {n idx cu2 su2 : Nat} {st0 : List Value} {q : Nat × Nat × Nat × Nat} {qs : List (Nat × Nat × Nat × Nat)} (d : decode (mB y) pc = .ok (.invokestatic idx, 3)) (k : zCS (mN y).cls idx y2 n) (hst : st0 = as.reverse ++ st) (hn : as.length = n) (hH : mH y2 = q :: qs) (hf : zfit y y2 = true)
    (hw : Nat.ble ((st.map fun v => v.category).sum) 8 = true) (hcu : cu + (mM y2).cells = cu2) (hsu : su + (mM y2).slots = su2) (hcu2 : Nat.ble cu2 (mM y).cells = true) (hsu2 : Nat.ble su2 (mM y).slots = true)
    (hC : zCon E y2 as g i j (zK E y Z X pc lo st cu2 su2)) : zR E y Z X pc lo st0 g i j cu su := by
  subst hcu; subst hsu; subst hst
  obtain ⟨p, e, R, s, m, args, below, meth, cc⟩ := X
  intro C H locs ls hR hS hl
  obtain ⟨hx, hb, -, hml, hown, hts, hE, -, hRm, -⟩ := id C
  obtain ⟨⟨h1, h2, h3, h4, h5⟩, h6⟩ := k
  have hc : zcode y2 = .codeWith (mN y2) (mB y2) (mL y2) (mR y2) (q :: qs) := by unfold zcode; rw [hH]
  simp only [zfit, Bool.and_eq_true] at hf
  refine zgo (st := st) (a9 := (cvs as).toArray) (mc := (mM y2).cells) (ms := (mM y2).slots) ?_ C hS hl
  exact vx_runSX (n := n) (index := idx) (nL := mL y) (As := cvs as) (hh := q :: qs) ⟨hx, hb, hml, hown, hts⟩ hC ⟨⟨rfl, rfl, by rw [hRm]; exact Nat.le_of_ble_eq_true hf.1, by rw [hRm]; exact Nat.le_of_ble_eq_true hf.2, zwsat hts h3, by rw [← hc]; exact List.mem_cons_self⟩, by rw [← hc]; exact hts _ h3, hts _ h2, h4, fun sig h => by
      rw [h] at h5
      exact (Option.some.inj h5).symm, hts _ h1, hts _ h6⟩
    ⟨zblind, fun U hU hW => zpre hE hR hS hU hW⟩ rfl (by rw [← hn]; simp [cvs]) hl.1 (by simp [cvs]) (zroom hw) d ⟨by rw [hRm]; exact Nat.le_of_ble_eq_true hcu2, by rw [hRm]; exact Nat.le_of_ble_eq_true hsu2⟩
/-- a constructor -/
theorem r_calli {y2 : Mt} {as : List Value} {r n idx cu2 su2 : Nat} {st0 : List Value} (d : decode (mB y) pc = .ok (.invokespecial idx, 3)) (k : zCI (mN y).cls idx y2 n) (hst : st0 = as.reverse ++ .ref (r + 1) :: st) (hn : as.length = n) (hH : mH y2 = []) (hf : zfit y y2 = true)
    (hw : Nat.ble ((st.map fun v => v.category).sum) 8 = true) (hcu : cu + (mM y2).cells = cu2) (hsu : su + (mM y2).slots = su2) (hcu2 : Nat.ble cu2 (mM y).cells = true) (hsu2 : Nat.ble su2 (mM y).slots = true)
    (hC : zConI E y2 (.ref (r + 1) :: as) g i j (zK E y Z X pc lo st cu2 su2)) : zR E y Z X pc lo st0 g i j cu su := by
  subst hcu; subst hsu; subst hst
  obtain ⟨p, e, R, s, m, args, below, meth, cc⟩ := X
  intro C H locs ls hR hS hl
  obtain ⟨hx, hb, -, hml, hown, hts, hE, -, hRm, -⟩ := id C
  have hcb := zcb hH k.1 hts hRm hf
  rw [k.2.2.2] at hcb
  have hrun := va_runI (n := n) (index := idx) (nL := mL y) (As := cvs as) (b := r) (rest := cvs st) (H := H) (locs := locs) (cells := cu) (slots := su) (e := e) (below := below) (meth := meth) (g := F0 m pc ls (cvs (as.reverse ++ .ref (r + 1) :: st))) (own := (mN y).cls) ⟨hx, hb, hml, hown, hts⟩ hC ⟨hcb, k.2.2.1, hts _ k.2.1⟩
    ⟨zblind, fun U hU hW => zpre (as := .ref (r + 1) :: as) hE hR hS hU hW⟩ rfl (by rw [← hn]; simp [cvs]) hl.1 (by simp [cvs, cv, zrf, va_rf]) (zroom hw) d ⟨by rw [hRm]; exact Nat.le_of_ble_eq_true hcu2, by rw [hRm]; exact Nat.le_of_ble_eq_true hsu2⟩
  intro T hT Xs
  obtain ⟨v, st₀, t, T', L, h0, X', hL, e1, e2, ⟨v2, g2, i2, j2, hv, hrep, hk, hF⟩, stp⟩ := hrun T hT Xs
  cases Outcome.returned.inj hv
  have hS' := zKeep h0 e1 hS hL hF
  cases v2 with
  | none =>
    obtain ⟨t2, a1, b1⟩ := hk C T'.heap (locs ++ L) ls (by rw [e1]; exact hrep) hS' hl T' rfl X'
    exact ⟨t2, stp t2 a1, b1⟩
  | some v =>
    obtain ⟨t2, a1, b1⟩ := hk C T'.heap (locs ++ L) ls (by rw [e1]; exact hrep) hS' hl T' rfl X'
    exact ⟨t2, stp t2 a1, b1⟩
def zOI (own : String) (idx : Nat) : Prop := Cond.methodLink own idx Lib.objectInit ∈ lw_good ∧ Cond.instanceMethod Lib.objectInit ∈ lw_good ∧ Cond.code Lib.objectInit ⟨#[0xb1]⟩ 1 none ∈ lw_good
theorem r_objinit {r idx : Nat} (d : decode (mB y) pc = .ok (.invokespecial idx, 3)) (k : zOI (mN y).cls idx) (hr0 : r ≠ 0) (hfr : Nat.ble 1 (mM y).frames = true) (hlo : Nat.ble ((st.map fun v => v.category).sum + 12) (mM y).locals = true) (kk : zR E y Z X (pc + 3) lo st g i j cu su) : zR E y Z X pc lo (.ref r :: st) g i j cu su := by
  obtain ⟨p, e, R, s, m, args, below, meth, cc⟩ := X
  intro C H locs ls hR hS hl
  obtain ⟨hx, hb, -, hml, hown, hts, hE, -, hRm, -⟩ := id C
  cases r with
  | zero => exact absurd rfl hr0
  | succ a =>
    refine W.objInit hx hb hown (hts _ k.1) (hts _ k.2.1) (hts _ k.2.2) rfl (hl.1.trans hml.symm) (a := a) (rest := cvs st) rfl d (by rw [hRm]; exact Nat.le_of_ble_eq_true hfr) (by rw [zsum, hRm]; have := Nat.le_of_ble_eq_true hlo; show 2 * 0 + _ + _ ≤ _; omega) (kk C H locs ls hR hS hl)
end RULES5
/-! the JDK's static functions, constants, copies, throws, catches -/
section RULES6
variable {E : Ev} {y : Mt} {Z : Fx → State → Prop} {X : Fx} {pc : Nat} {lo st : List Value} {g : Sh} {i : Ni} {j : Nj} {cu su : Nat} {Q : Kp}
def zMx (own : String) (idx : Nat) : Prop := Cond.methodLink own idx Lib.Math.max.name ∈ lw_good ∧ Cond.static Lib.Math.max.name ∈ lw_good ∧ Cond.initialized "java/lang/Math" ∈ lw_good ∧ Cond.code Lib.Math.max.name Lib.Math.max.code 2 (some .int) ∈ lw_good
def zMn (own : String) (idx : Nat) : Prop := Cond.methodLink own idx Lib.Math.min.name ∈ lw_good ∧ Cond.static Lib.Math.min.name ∈ lw_good ∧ Cond.initialized "java/lang/Math" ∈ lw_good ∧ Cond.code Lib.Math.min.name Lib.Math.min.code 2 (some .int) ∈ lw_good
def zMa (own : String) (idx : Nat) : Prop := Cond.methodLink own idx Lib.Math.abs.name ∈ lw_good ∧ Cond.static Lib.Math.abs.name ∈ lw_good ∧ Cond.initialized "java/lang/Math" ∈ lw_good ∧ Cond.code Lib.Math.abs.name Lib.Math.abs.code 1 (some .int) ∈ lw_good
def jmax (x y : Int32) : Int32 := if x < y then y else x
def jmin (x y : Int32) : Int32 := if y < x then y else x
def jabs (x : Int32) : Int32 := if 0 ≤ x then x else 0 - x
theorem zloc {n : Nat} (hlo : Nat.ble ((st.map fun v => v.category).sum + n) (mM y).locals = true) {R : Room} (hR : R = mM y) : ((cvs st).map fun v => v.category).sum + n ≤ R.locals := by
  rw [zsum, hR]; exact Nat.le_of_ble_eq_true hlo
theorem r_mmax {a b : Int32} {idx : Nat} (d : decode (mB y) pc = .ok (.invokestatic idx, 3)) (k : zMx (mN y).cls idx) (hfr : Nat.ble 1 (mM y).frames = true) (hlo : Nat.ble ((st.map fun v => v.category).sum + 13) (mM y).locals = true) (hcu : Nat.ble cu (mM y).cells = true) (hsu : Nat.ble su (mM y).slots = true)
    (kk : zR E y Z X (pc + 3) lo (.int (jmax a b) :: st) g i j cu su) : zR E y Z X pc lo (.int b :: .int a :: st) g i j cu su := by
  obtain ⟨p, e, R, s, m, args, below, meth, cc⟩ := X
  intro C H locs ls hR hS hl
  obtain ⟨hx, hb, -, hml, hown, hts, hE, -, hRm, -⟩ := id C
  exact va_mmax hx hb (hml.trans hl.1.symm) hown (hts _ k.1) (hts _ k.2.1) (hts _ k.2.2.1) (hts _ k.2.2.2) (by rw [hRm]; exact Nat.le_of_ble_eq_true hfr) (zloc hlo hRm) (by rw [hRm]; exact Nat.le_of_ble_eq_true hcu) (by rw [hRm]; exact Nat.le_of_ble_eq_true hsu) d (kk C H locs ls hR hS hl)
theorem r_mmin {a b : Int32} {idx : Nat} (d : decode (mB y) pc = .ok (.invokestatic idx, 3)) (k : zMn (mN y).cls idx) (hfr : Nat.ble 1 (mM y).frames = true) (hlo : Nat.ble ((st.map fun v => v.category).sum + 13) (mM y).locals = true) (hcu : Nat.ble cu (mM y).cells = true) (hsu : Nat.ble su (mM y).slots = true)
    (kk : zR E y Z X (pc + 3) lo (.int (jmin a b) :: st) g i j cu su) : zR E y Z X pc lo (.int b :: .int a :: st) g i j cu su := by
  obtain ⟨p, e, R, s, m, args, below, meth, cc⟩ := X
  intro C H locs ls hR hS hl
  obtain ⟨hx, hb, -, hml, hown, hts, hE, -, hRm, -⟩ := id C
  exact va_mmin hx hb (hml.trans hl.1.symm) hown (hts _ k.1) (hts _ k.2.1) (hts _ k.2.2.1) (hts _ k.2.2.2) (by rw [hRm]; exact Nat.le_of_ble_eq_true hfr) (zloc hlo hRm) (by rw [hRm]; exact Nat.le_of_ble_eq_true hcu) (by rw [hRm]; exact Nat.le_of_ble_eq_true hsu) d (kk C H locs ls hR hS hl)
theorem r_mabs {a : Int32} {idx : Nat} (d : decode (mB y) pc = .ok (.invokestatic idx, 3)) (k : zMa (mN y).cls idx) (hfr : Nat.ble 1 (mM y).frames = true) (hlo : Nat.ble ((st.map fun v => v.category).sum + 13) (mM y).locals = true) (hcu : Nat.ble cu (mM y).cells = true) (hsu : Nat.ble su (mM y).slots = true)
    (kk : zR E y Z X (pc + 3) lo (.int (jabs a) :: st) g i j cu su) : zR E y Z X pc lo (.int a :: st) g i j cu su := by
  obtain ⟨p, e, R, s, m, args, below, meth, cc⟩ := X
  intro C H locs ls hR hS hl
  obtain ⟨hx, hb, -, hml, hown, hts, hE, -, hRm, -⟩ := id C
  exact va_mabs hx hb (hml.trans hl.1.symm) hown (hts _ k.1) (hts _ k.2.1) (hts _ k.2.2.1) (hts _ k.2.2.2) (by rw [hRm]; exact Nat.le_of_ble_eq_true hfr) (zloc hlo hRm) (by rw [hRm]; exact Nat.le_of_ble_eq_true hcu) (by rw [hRm]; exact Nat.le_of_ble_eq_true hsu) d (kk C H locs ls hR hS hl)
theorem r_ldci {idx : Nat} {v : Int32} (d : decode (mB y) pc = .ok (.ldc idx, 2)) (k : Cond.constant (mN y).cls idx v ∈ lw_good) (kk : zR E y Z X (pc + 2) lo (.int v :: st) g i j cu su) : zR E y Z X pc lo st g i j cu su := by
  obtain ⟨p, e, R, s, m, args, below, meth, cc⟩ := X
  intro C H locs ls hR hS hl
  exact lv_ldc C.1 C.2.1 C.2.2.2.2.1 (C.2.2.2.2.2.1 _ k) d (kk C H locs ls hR hS hl)
theorem r_ldciw {idx : Nat} {v : Int32} (d : decode (mB y) pc = .ok (.ldc_w idx, 3)) (k : Cond.constant (mN y).cls idx v ∈ lw_good) (kk : zR E y Z X (pc + 3) lo (.int v :: st) g i j cu su) : zR E y Z X pc lo st g i j cu su := by
  obtain ⟨p, e, R, s, m, args, below, meth, cc⟩ := X
  intro C H locs ls hR hS hl
  exact lv_ldcw C.1 C.2.1 C.2.2.2.2.1 (C.2.2.2.2.2.1 _ k) d (kk C H locs ls hR hS hl)
theorem r_ldc2 {idx : Nat} {v : Int64} (d : decode (mB y) pc = .ok (.ldc2_w idx, 3)) (k : Cond.constantLong (mN y).cls idx v ∈ lw_good) (kk : zR E y Z X (pc + 3) lo (.long v :: st) g i j cu su) : zR E y Z X pc lo st g i j cu su := by
  obtain ⟨p, e, R, s, m, args, below, meth, cc⟩ := X
  intro C H locs ls hR hS hl
  exact lv_ldc2 C.1 C.2.1 C.2.2.2.2.1 (C.2.2.2.2.2.1 _ k) d (kk C H locs ls hR hS hl)
theorem r_ldcs {idx n : Nat} {tx : String} (d : decode (mB y) pc = .ok (.ldc idx, 2)) (k : zstr[n]? = some ((mN y).cls, idx, tx)) (kk : zR E y Z X (pc + 2) lo (.ref (eK E n + 1) :: st) g i j cu su) : zR E y Z X pc lo st g i j cu su := by
  obtain ⟨p, e, R, s, m, args, below, meth, cc⟩ := X
  intro C H locs ls hR hS hl
  exact va_ldcS C.1 C.2.1 C.2.2.2.2.1 (C.2.2.2.2.2.2.1.2.2.2.2.2.1 n _ k).1 d (kk C H locs ls hR hS hl)
/-- System.arraycopy over ints -/
def zCp (own : String) (idx : Nat) : Prop := Cond.methodLink own idx arraycopyName ∈ lw_good ∧ Cond.native arraycopyName ∈ lw_good ∧ Cond.static arraycopyName ∈ lw_good ∧ Cond.initialized "java/lang/System" ∈ lw_good
theorem znn {z : Int32} (hz : ¬ z < 0) : z.toInt = (z.toNatClampNeg : Int) := by
  have hz0 : (0 : Int) ≤ z.toInt := by
    have := Int32.not_lt.mp hz
    simpa using Int32.le_iff_toInt_le.mp this
  show z.toInt = ((z.toInt.toNat : Nat) : Int)
  omega
theorem r_copyi {src dst idx t : Nat} {sp dp n : Int32} (d : decode (mB y) pc = .ok (.invokestatic idx, 3)) (k : zCp (mN y).cls idx) (ht6 : t = 0 ∨ t = 1) (hs : gT g src = t + 11) (hd : gT g dst = t + 11) (h1 : ¬ sp < 0) (h2 : ¬ dp < 0) (h3 : ¬ n < 0) (h4 : sp.toNatClampNeg + n.toNatClampNeg ≤ gL g src) (h5 : dp.toNatClampNeg + n.toNatClampNeg ≤ gL g dst)
    (hfit : t = 0 ∨ ∀ q, q < n.toNatClampNeg → fits .byte (.int (i src (sp.toNatClampNeg + q))) = true) (hfr : Nat.ble 1 (mM y).frames = true) (hlo : Nat.ble ((st.map fun v => v.category).sum + (nativeFrameWords "java/lang/System" "arraycopy" 5 + 11)) (mM y).locals = true)
    (kk : zR E y Z X (pc + 3) lo st g (wA i dst (va_cpy (i src) (i dst) sp.toNatClampNeg dp.toNatClampNeg n.toNatClampNeg)) j cu su) : zR E y Z X pc lo (.int n :: .int dp :: .ref dst :: .int sp :: .ref src :: st) g i j cu su := by
  obtain ⟨p, e, R, s, m, args, below, meth, cc⟩ := X
  intro C H locs ls hR hS hl
  obtain ⟨hx, hb, -, hml, hown, hts, hE, -, hRm, -⟩ := id C
  obtain ⟨a0, rfl⟩ := znz (t := t + 10) hR hs
  obtain ⟨a, rfl⟩ := znz (t := t + 10) hR hd
  have h6 : t < 6 := by omega
  have hzc : ∀ (i' : Ni) (r : Nat), zct t g i' j r = .inl (i' r) := by
    intro i' r; rcases ht6 with rfl | rfl <;> rfl
  have hc0 : H[a0]? = some (vp_cell (eA E t) (gL g (a0 + 1), .inl (i (a0 + 1)))) := by rw [← hzc i]; exact zarr hR hs
  have hc1 : H[a]? = some (vp_cell (eA E t) (gL g (a + 1), .inl (i (a + 1)))) := by rw [← hzc i]; exact zarr hR hd
  intro T hT X
  obtain ⟨-, k0, hk0, cm0, hkk0⟩ := (hE.2.1.2 t _ (zts_at E h6)).1 (gL g (a0 + 1)) (fun q => .int (i (a0 + 1) q))
  have hpr : refKind (zar t) = false := by rcases ht6 with rfl | rfl <;> rfl
  obtain ⟨vm', X', step⟩ := X.arraycopy hx hown (hts _ k.1) (hts _ k.2.1) (hts _ k.2.2.1) (hts _ k.2.2.2) (src := a0) (dst := a) (cs := vp_cell (eA E t) (gL g (a0 + 1), .inl (i (a0 + 1)))) (cd := vp_cell (eA E t) (gL g (a + 1), .inl (i (a + 1)))) (srcPos := sp) (destPos := dp) (n := n) (by rw [hT]; exact hc0) (by rw [hT]; exact hc1)
    (fun _ h => by cases h) (fun _ h => by cases h) (fun h => by cases h) (fun h => by cases h) hk0 hk0 hkk0 hkk0 (by simp [hpr]) h1 h2 h3
    (by rw [znn h1, znn h3]; show ¬ _ > ((arrV (eA E t) (gL g (a0 + 1)) (fun q => .int (i (a0 + 1) q))).slots.size : Int); rw [arrV_size]; omega)
    (by rw [znn h2, znn h3]; show ¬ _ > ((arrV (eA E t) (gL g (a + 1)) (fun q => .int (i (a + 1) q))).slots.size : Int); rw [arrV_size]; omega)
    (fun vm₁ _ q hq => by
      have e : (vp_cell (eA E t) (gL g (a0 + 1), .inl (i (a0 + 1)))).slots.getD (sp.toNatClampNeg + q) .null = .int (i (a0 + 1) (sp.toNatClampNeg + q)) := by
        show (arrV (eA E t) (gL g (a0 + 1)) (fun q => .int (i (a0 + 1) q))).slots.getD _ _ = _
        rw [Array.getD_eq_getD_getElem?, arrV_read _ _ (by omega)]
        rfl
      refine ⟨?_, ?_⟩
      · rw [e]
        rcases ht6 with rfl | rfl
        · rfl
        · rcases hfit with h | h
          · cases h
          · exact h q hq
      · rw [e]
        exact trivial)
    (g := F0 m pc ls (cvs (.int n :: .int dp :: .ref (a + 1) :: .int sp :: .ref (a0 + 1) :: st))) rfl (hl.1.trans hml.symm) (rest := cvs st) rfl (by rw [hb]; exact d) (by rw [hRm]; exact Nat.le_of_ble_eq_true hfr) (by show 2 * 0 + _ + _ ≤ _; have := zloc hlo hRm; omega)
  have e1 : copied (vp_cell (eA E t) (gL g (a0 + 1), .inl (i (a0 + 1)))) (vp_cell (eA E t) (gL g (a + 1), .inl (i (a + 1)))) sp dp n = vp_cell (eA E t) (gL g (a + 1), .inl (va_cpy (i (a0 + 1)) (i (a + 1)) sp.toNatClampNeg dp.toNatClampNeg n.toNatClampNeg)) := va_copied (fun z => .int z) (eA E t) (eA E t) (i (a0 + 1)) (i (a + 1)) h4
  rw [e1] at X' step
  have hla : a < H.size := (Array.getElem?_eq_some_iff.mp hc1).1
  generalize hnc : vp_cell (eA E t) (gL g (a + 1), .inl (va_cpy (i (a0 + 1)) (i (a + 1)) sp.toNatClampNeg dp.toNatClampNeg n.toNatClampNeg)) = nc at X' step
  have hheap : ((T.setVm vm').setCell a nc).heap = H.setIfInBounds a nc := by rw [← hT]; rfl
  have oq : ∀ q : Nat, q ≠ a → (H.setIfInBounds a nc)[q]? = H[q]? := fun q hq => by simp [Array.getElem?_setIfInBounds, Ne.symm hq]
  have hB := zarrB hR hd
  obtain ⟨t9, a1, b1⟩ := kk C (H.setIfInBounds a nc) _ ls (zstore hR hd oq (fun r hr => ⟨wA_n hr, rfl⟩) (by
      rw [hzc, wA_s, hnc]
      simp [Array.getElem?_setIfInBounds, hla])) ⟨by simp; exact hS.1, fun q g1 g2 => by
      rw [oq q (fun e => g2 (by rw [e]; exact hB))]
      exact hS.2.1 q g1 g2, fun q hq => by
      rcases List.mem_append.mp hq with h | h
      · exact hS.2.2 q h
      · obtain ⟨z, -, hz⟩ := List.mem_map.mp h
        rw [← hz]
        exact hB⟩ hl _ hheap X'
  exact ⟨t9, step t9 a1, b1⟩
/-- throw new E("text") -/
def zwd : List Cond := zcast.map (fun q => Cond.castable q.1 q.2) ++ zdecl.map Cond.declares
theorem zwd_at {s : State} {args : Array Value} (hE : zEnv E s) {w : Cond} (hw : w ∈ zwd) : w.before args s = true := by
  rcases List.mem_append.mp hw with h | h
  · obtain ⟨q, hq, rfl⟩ := List.mem_map.mp h
    exact va_Nw.use rfl (hE.2.2.2.2.2.2.2.2.1 q hq)
  · obtain ⟨q, hq, rfl⟩ := List.mem_map.mp h
    exact va_Nw.use rfl (hE.2.2.2.2.2.2.2.2.2.2.2 q hq)
def znames : List String := ["java/lang/RuntimeException", "java/lang/Exception"]
def zTw (own : String) (ic ec : Nat) : Prop := Bundle.fit (zexn ec) = true ∧ Cond.initialized (zexn ec) ∈ lw_good ∧ (∀ w ∈ (vx_atS own ic (zexn ec) znames).filter goodWord, w ∈ lw_good) ∧ (∀ w ∈ (vx_atS own ic (zexn ec) znames).filter (fun w => !goodWord w), w ∈ zwd) ∧ (∀ w ∈ vx_atS own ic (zexn ec) znames, vx_ot w = true) ∧ ∀ n ∈ znames, Bundle.fit n = true
def zTh (own : String) (ik is ic ec : Nat) : Prop := Cond.classLink own ik (zexn ec) ∈ lw_good ∧ zTw own ic ec ∧ ∃ tx, (own, is, tx) ∈ zmsg
theorem zgood_ot {w : Cond} (h : w ∈ lw_good) : vx_ot w = true := by
  unfold vx_ot
  rw [(List.mem_filter.mp h).2, Bool.or_true]
theorem zTw.at {own : String} {ic ec : Nat} {s : State} {args : Array Value} (k : zTw own ic ec) (hts : ∀ w ∈ lw_good, w.before args s = true) (hE : zEnv E s) : ∀ w ∈ vx_atS own ic (zexn ec) znames, w.before args s = true := by
  refine vx_hat (fun w hw => hts w (k.2.2.1 w hw)) (k.2.2.2.1) (fun w hw => zwd_at hE hw)
theorem r_throw {ik is ic ec : Nat} (d0 : decode (mB y) pc = .ok (.new ik, 3)) (d3 : decode (mB y) (pc + 3) = .ok (.dup, 1)) (d4 : decode (mB y) (pc + 4) = .ok (.ldc is, 2)) (d6 : decode (mB y) (pc + 6) = .ok (.invokespecial ic, 3)) (d9 : decode (mB y) (pc + 9) = .ok (.athrow, 1))
    (k : zTh (mN y).cls ik is ic ec) (hH : mH y = []) (hfr : Nat.ble 6 (mM y).frames = true) (hlo : Nat.ble ((st.map fun v => v.category).sum + 82) (mM y).locals = true) (hcu : Nat.ble (cu + 1) (mM y).cells = true) (hsu : Nat.ble (su + 6) (mM y).slots = true) (hq : Q (.inr ec) g i j) : zR E y (zZ E y Q) X pc lo st g i j cu su := by
  obtain ⟨p, e, R, s, m, args, below, meth, cc⟩ := X
  intro C H locs ls hR hS hl
  obtain ⟨hx, hb, -, hml, hown, hts, hE, hlk, hRm, htb, -⟩ := id C
  obtain ⟨k1, k2, tx, k3⟩ := k
  obtain ⟨sa, hstr⟩ := hE.2.2.2.2.2.2.1 _ k3
  rw [hH] at htb
  exact vx_throwS (names := znames) hx hb hE.1 hown k2.1 k2.2.2.2.2.2 (hts _ k1) (hts _ k2.2.1) hstr (k2.at hts hE)
    (fun w hw => by
      rcases List.mem_cons.mp hw with rfl | hw
      · exact zgood_ot k1
      · rcases List.mem_cons.mp hw with rfl | hw
        · exact zgood_ot k2.2.1
        · exact k2.2.2.2.2.1 w hw) hE.2.2.2.1 hE.2.2.2.2.1 hS (hl.1.trans hml.symm) d0 d3 d4 d6 d9 (fun x hx => by rw [htb] at hx; cases hx)
    (by rw [hRm]; exact Nat.lt_of_lt_of_le (show znames.length + 3 < 6 by decide) (Nat.le_of_ble_eq_true hfr)) (zloc hlo hRm) (by rw [hRm]; exact Nat.le_of_ble_eq_true hcu) (by rw [hRm]; exact Nat.le_of_ble_eq_true hsu) hlk
    (fun t _ h1 h2 => ⟨ec, g, i, j, rfl, hR.kept h2, hq, ⟨Nat.le_trans hS.1 h1, fun q h3 h4 => (h2 q (Nat.lt_of_lt_of_le h3 hS.1)).trans (hS.2.1 q h3 h4)⟩⟩) hS.2.2 (Nat.le_of_ble_eq_true hcu) (Nat.le_of_ble_eq_true hsu)
theorem r_throww {ik is ic ec : Nat} (d0 : decode (mB y) pc = .ok (.new ik, 3)) (d3 : decode (mB y) (pc + 3) = .ok (.dup, 1)) (d4 : decode (mB y) (pc + 4) = .ok (.ldc_w is, 3)) (d6 : decode (mB y) (pc + 7) = .ok (.invokespecial ic, 3)) (d9 : decode (mB y) (pc + 10) = .ok (.athrow, 1))
    (k : zTh (mN y).cls ik is ic ec) (hH : mH y = []) (hfr : Nat.ble 6 (mM y).frames = true) (hlo : Nat.ble ((st.map fun v => v.category).sum + 82) (mM y).locals = true) (hcu : Nat.ble (cu + 1) (mM y).cells = true) (hsu : Nat.ble (su + 6) (mM y).slots = true) (hq : Q (.inr ec) g i j) : zR E y (zZ E y Q) X pc lo st g i j cu su := by
  obtain ⟨p, e, R, s, m, args, below, meth, cc⟩ := X
  intro C H locs ls hR hS hl
  obtain ⟨hx, hb, -, hml, hown, hts, hE, hlk, hRm, htb, -⟩ := id C
  obtain ⟨k1, k2, tx, k3⟩ := k
  obtain ⟨sa, hstr⟩ := hE.2.2.2.2.2.2.1 _ k3
  rw [hH] at htb
  exact vx_throwSW (names := znames) hx hb hE.1 hown k2.1 k2.2.2.2.2.2 (hts _ k1) (hts _ k2.2.1) hstr (k2.at hts hE)
    (fun w hw => by
      rcases List.mem_cons.mp hw with rfl | hw
      · exact zgood_ot k1
      · rcases List.mem_cons.mp hw with rfl | hw
        · exact zgood_ot k2.2.1
        · exact k2.2.2.2.2.1 w hw) hE.2.2.2.1 hE.2.2.2.2.1 hS (hl.1.trans hml.symm) d0 d3 d4 d6 d9 (fun x hx => by rw [htb] at hx; cases hx)
    (by rw [hRm]; exact Nat.lt_of_lt_of_le (show znames.length + 3 < 6 by decide) (Nat.le_of_ble_eq_true hfr)) (zloc hlo hRm) (by rw [hRm]; exact Nat.le_of_ble_eq_true hcu) (by rw [hRm]; exact Nat.le_of_ble_eq_true hsu) hlk
    (fun t _ h1 h2 => ⟨ec, g, i, j, rfl, hR.kept h2, hq, ⟨Nat.le_trans hS.1 h1, fun q h3 h4 => (h2 q (Nat.lt_of_lt_of_le h3 hS.1)).trans (hS.2.1 q h3 h4)⟩⟩) hS.2.2 (Nat.le_of_ble_eq_true hcu) (Nat.le_of_ble_eq_true hsu)
/-- caught here -/
theorem t_catch {ec : Nat} {pre suf : List (Nat × Nat × Nat × Nat)} {x : Nat × Nat × Nat × Nat} (hH : mH y = pre ++ x :: suf) (hpass : ∀ z ∈ pre, z.2.2.2 ≠ 0 ∧ ∃ nm : String, Cond.classLink (mN y).cls z.2.2.2 nm ∈ lw_good ∧ (zexn ec, nm) ∈ zncast) (hx : (Nat.ble x.1 pc && Nat.ble (pc + 1) x.2.1) = true) (h0 : x.2.2.2 ≠ 0)
    (hl0 : Cond.classLink (mN y).cls x.2.2.2 (zexn ec) ∈ lw_good) (hc0 : (zexn ec, zexn ec) ∈ zcast) (kk : ∀ r : Nat, zR E y Z X x.2.2.1 lo [.ref r] g i j cu su) : zT E y Z X pc lo ec g i j cu su := by
  obtain ⟨p, e, R, s, m, args, below, meth, cc⟩ := X
  intro C H locs ls q ce st2 hR hS hl hq9 hv hcl
  obtain ⟨hx', hb, -, hml, hown, hts, hE, hlk, hRm, htb, -⟩ := id C
  have hsp : cc.exceptionTable.toList = tableOf pre ++ (⟨x.1, x.2.1, x.2.2.1, x.2.2.2⟩ : ExceptionTableEntry) :: tableOf suf := by
    rw [htb, hH]
    simp [tableOf]
  refine vx_catch (own := (mN y).cls) (name := zexn ec) (E := zexn ec) hown _ _ _ hsp (fun z hz => Or.inr ?_) ?_ h0 (hts _ hl0) (va_Nw.use rfl (hE.2.2.2.2.2.2.2.2.1 _ hc0)) hq9 hv hcl (kk (q + 1) C H locs ls hR hS hl)
  · obtain ⟨z', hz', rfl⟩ := List.mem_map.mp hz
    obtain ⟨h1, nm, h2, h3⟩ := hpass z' hz'
    exact ⟨h1, nm, hts _ h2, hE.2.2.2.2.2.2.2.2.2.1 _ h3⟩
  · simp only [Bool.and_eq_true] at hx
    have h1 := Nat.le_of_ble_eq_true hx.1
    have h2 := Nat.le_of_ble_eq_true hx.2
    simp [covers]
    omega
end RULES6
/-! A class whose constructor (String) calls its super's by another entry than 7 (java.util.NoSuchElementException: 13): zx_chain, zx_ctor, zx_throwS follow the proofs of Bundle.chainS, Stand.ctorThrowS and vx_throwS with the first constructor's entry and bytes left open. -/
def zx_catoms (X : String) (ix : Nat) (rx : ByteArray) (names : List String) : List Cond := match names with
  | [] => Bundle.passSAtoms X Bundle.tN ix rx
  | Y :: r => Bundle.passSAtoms X Y ix rx ++ Bundle.chainSAtoms Y r
theorem zx_chain {args : Array Value} {s : State} {pl : Platform} (hpl : pl.magicAccessors = ({} : Platform).magicAccessors) {top : MethodId} (htop : s.methodNamed? (Bundle.initS Bundle.tN) = some top)
    {ix : Nat} {rx : ByteArray} (x0 : decode rx 0 = .ok (.aload_n 0, 1)) (x1 : decode rx 1 = .ok (.aload_n 1, 1)) (x2 : decode rx 2 = .ok (.invokespecial ix, 3)) (x5 : decode rx 5 = .ok (.return_, 1)) (names : List String) (X : String) (hX : Bundle.fit X = true) (hn : ∀ n ∈ names, Bundle.fit n = true) (h : ∀ c ∈ zx_catoms X ix rx names, c.before args s = true) :
      ∃ (P1 : PassC) (Ps : List PassC), Ps.length = names.length ∧ P1.LinksS pl s ∧ (∀ P, P ∈ Ps → P.LinksS pl s) ∧ s.methodNamed? (Bundle.initS X) = some P1.m ∧
        P1.sup = firstOf top (Ps.map (·.toPassT)) ∧ PassesOn top (Ps.map (·.toPassT)) := by
  cases names with
  | nil =>
    obtain ⟨P, L, hm, hs⟩ := PassC.ofS_atoms (args := args) (s := s) hpl (X := X) (Y := Bundle.tN) (Bundle.fit_spec hX).1 (by decide) x0 x1 x2 x5 h
    exact ⟨P, [], rfl, L, (fun _ hP => by cases hP), hm, Option.some.inj (hs.symm.trans htop), trivial⟩
  | cons Y r =>
    obtain ⟨P, L, hm, hs⟩ := PassC.ofS_atoms (args := args) (s := s) hpl (X := X) (Y := Y) (Bundle.fit_spec hX).1 (Bundle.fit_spec (hn Y List.mem_cons_self)).2 x0 x1 x2 x5
      (fun c hc => h c (by simp only [zx_catoms, List.mem_append]; exact Or.inl hc))
    obtain ⟨P', Ps, hlen, L', hL, hm', hsup, hpass⟩ := Bundle.chainS (args := args) hpl htop r Y (hn Y List.mem_cons_self) (fun n hn' => hn n (List.mem_cons_of_mem _ hn')) (fun c hc => h c (by simp only [zx_catoms, List.mem_append]; exact Or.inr hc))
    refine ⟨P, P' :: Ps, by simp [hlen], L, ?_, hm, Option.some.inj (hs.symm.trans hm'), hsup, hpass⟩
    intro Q hQ
    rcases List.mem_cons.mp hQ with rfl | hQ
    · exact L'
    · exact hL Q hQ
def zx_atoms (own : String) (ic : Nat) (X : String) (ix : Nat) (rx : ByteArray) (names : List String) : List Cond :=
  Bundle.throwableAtoms ++ Bundle.throwableSAtoms ++ zx_catoms X ix rx names ++
  [.methodLink own ic (Bundle.initS X), .instantiable X 6, .castable X X, .selects X Bundle.tFill0 Bundle.tFill0, .selects X Bundle.tFill Bundle.tFill,
   .lays X Bundle.tN "cause" "Ljava/lang/Throwable;", .lays X Bundle.tN "stackTrace" Bundle.steD, .lays X Bundle.tN "suppressedExceptions" Bundle.listD, .lays X Bundle.tN "detailMessage" "Ljava/lang/String;",
   .isRef (.static Bundle.tN "UNASSIGNED_STACK" Bundle.steD), .isRef (.static Bundle.tN "SUPPRESSED_SENTINEL" Bundle.listD),
   .fieldLink Bundle.tN 198 Bundle.tN "backtrace" "Ljava/lang/Object;", .lays Bundle.tN Bundle.tN "backtrace" "Ljava/lang/Object;", .lays X Bundle.tN "backtrace" "Ljava/lang/Object;"]
def zx_atS (own : String) (ic : Nat) (X : String) (ix : Nat) (rx : ByteArray) (names : List String) : List Cond := (zx_atoms own ic X ix rx names).filter vx_no
set_option maxHeartbeats 1000000 in
theorem zx_ctor {p : Program} {l : Launch} {e : Env} {R : Room} {s : State} {m₀ : MethodId} {args : Array Value} {below : List Frame} {meth : Method} {c : Code} {W : State} {locs : List Loc} {cells slots : Nat} (X : Stand p l e R s m₀ args below meth c W locs cells slots) (hexec : p.tables.exec = Jvm.exec) (htr : e.platform.stackTraces = false) {own cls : String} {names : List String} {ic : Nat} {ix : Nat} {rx : ByteArray} (x0 : decode rx 0 = .ok (.aload_n 0, 1)) (x1 : decode rx 1 = .ok (.aload_n 1, 1)) (x2 : decode rx 2 = .ok (.invokespecial ix, 3)) (x5 : decode rx 5 = .ok (.return_, 1))
    (hown : s.vm.findClass own = some m₀.cls) (hcls : Bundle.fit cls = true) (hnames : ∀ n ∈ names, Bundle.fit n = true)
    (h : ∀ a ∈ zx_atoms own ic cls ix rx names, a.before args s = true)
    (hlocs : ∀ x ∈ locs, ∀ cell, s.heap[x.base]? = some cell → cell.vm.isStatics = false)
    {a : Addr} {cX : ClassId} {kX : Class} (hfoundX : s.vm.findClass cls = some cX) (hkX : s.vm.classes[cX]? = some kX) (hcell : W.heap[a]? = some (freshCell cX kX)) (hnew : s.heap.size ≤ a)
    {msg : Value} (hmsg : msg.isRef = true)
    {g : JFrame} (hg : g.method = m₀) (hsize : g.locals.size = c.maxLocals) (hlocked : g.locked = none) (hentered : g.entered = []) {rest : List Value} (hstack : g.stack = msg :: .ref a :: .ref a :: rest)
    (hd6 : decode c.code g.pc = .ok (.invokespecial ic, 3)) (hd9 : decode c.code (g.pc + 3) = .ok (.athrow, 1)) (hout : ∀ x ∈ c.exceptionTable.toList, covers x (g.pc + 3) = false)
    (hRframes : names.length + 3 < R.frames) (hRlocals : 2 * g.monitorRoom + ((Value.ref a :: rest).map fun v => v.category).sum + (13 * (names.length + 1) + 42) ≤ R.locals) (hlocks : meth.locks = false := by first | assumption | exact BodyLoose.notSynchronized (by assumption) | exact Body.notSynchronized (by assumption)) :
    ∃ U : State, Steps p.tables e below (W.setTop g) U ∧ U.status = .running ∧ Ended U below (.threw a) ∧ s.WarmedH U.vm ∧ s.sameButNew ({ U with vm := s.vm } : State) locs cells slots ∧
      ∃ ce, U.heap[a]? = some ce ∧ s.vm.findClass cls = some ce.cls ∧ ce.vm = .none := by
  have howns : e.platform.frameOwnsMonitors = true := by rw [X.admits.platform]
  have hfin : e.platform.finalization = false := by rw [X.admits.platform]
  have hpl : e.platform.magicAccessors = ({} : Platform).magicAccessors := by rw [X.admits.platform]
  have a' : ∀ x, x ∈ zx_atoms own ic cls ix rx names → x.holds args s none s [] = true := fun x hx => h x hx
  obtain ⟨T, Z0, L, -, Y⟩ := ThrowableC.of_atoms (args := args) howns hfin hpl (fun x hx => h x (by simp [zx_atoms, hx]))
  obtain ⟨Z, M, LZ, LM, hnZ⟩ := Init0T.ofS_atoms (args := args) hpl L Y (fun x hx => h x (by simp [zx_atoms, hx]))
  obtain ⟨P1, Ps, hlen, L1, hL, hP1m, hlink1, hlink⟩ := zx_chain (args := args) hpl hnZ x0 x1 x2 x5 names cls hcls hnames (fun x hx => h x (by simp [zx_atoms, hx]))
  have hfound : s.vm.findClass cls = some P1.m.cls := findClass_of_methodNamed hP1m
  cases Option.some.inj (hfoundX.symm.trans hfound)
  obtain ⟨c1, kX', hc1, hk, hord, -, -, hn6⟩ := Cond.instantiable_spec (a' (.instantiable cls 6) (by simp [zx_atoms]))
  cases Option.some.inj (hc1.symm.trans hfound)
  cases Option.some.inj (hkX.symm.trans hk)
  have hsel0 : selectMethod e.platform s.vm P1.m.cls T.fill0 = .method T.fill0 := by
    obtain ⟨c2, r2, m2, q1, q2, q3, q4, -⟩ := Cond.selects_spec (a' (.selects cls Bundle.tFill0 Bundle.tFill0) (by simp [zx_atoms]))
    cases Option.some.inj (q1.symm.trans hfound)
    cases Option.some.inj (q2.symm.trans (State.methodFound?_of_named Y.fill0 (by decide)))
    cases Option.some.inj (q3.symm.trans Y.fill0)
    rw [Launch.admits_selectMethod X.admits]; exact q4
  have hselF : selectMethod e.platform s.vm P1.m.cls T.fill = .method T.fill := by
    obtain ⟨c2, r2, m2, q1, q2, q3, q4, -⟩ := Cond.selects_spec (a' (.selects cls Bundle.tFill Bundle.tFill) (by simp [zx_atoms]))
    cases Option.some.inj (q1.symm.trans hfound)
    cases Option.some.inj (q2.symm.trans (State.methodFound?_of_named Y.fill (by decide)))
    cases Option.some.inj (q3.symm.trans Y.fill)
    rw [Launch.admits_selectMethod X.admits]; exact q4
  obtain ⟨cellS0, hcS0, hiss⟩ := Y.statics
  obtain ⟨u0, hu0⟩ := Cond.staticRefV Y.unassigned L.unassignedStatic L.statics hcS0 hiss (a' (.isRef (.static Bundle.tN "UNASSIGNED_STACK" Bundle.steD)) (by simp [zx_atoms]))
  obtain ⟨sen, hsen⟩ := Cond.staticRefV Y.sentinel L.sentinelStatic L.statics hcS0 hiss (a' (.isRef (.static Bundle.tN "SUPPRESSED_SENTINEL" Bundle.listD)) (by simp [zx_atoms]))
  obtain ⟨ci198, i198, fB, hk198, hg198, ha198, hsB, -, hnB, htB, hffB⟩ := Cond.ownField (t := .object "java/lang/Object") Y.found L.cls (by decide +kernel) (a' (.fieldLink Bundle.tN 198 Bundle.tN "backtrace" "Ljava/lang/Object;") (by simp [zx_atoms])) (a' (.lays Bundle.tN Bundle.tN "backtrace" "Ljava/lang/Object;") (by simp [zx_atoms])) e.platform hpl
  obtain ⟨cellS, hcS', heS, -, hkeep⟩ := X.same.2.2.2.2.2 T.aS cellS0 hcS0
  have hcellS : W.heap[T.aS]? = some cellS := hcS'
  have hout' : ∀ i, (⟨T.aS, i⟩ : Loc) ∉ locs := fun i hmem => by
    have := hlocs _ hmem cellS0 hcS0
    rw [hiss] at this; cases this
  have hknownS : cellS.vm ≠ .unknown := by
    rw [heS]; intro hu
    rw [show cellS0.vm = .unknown from hu] at hiss
    cases hiss
  have hneS : T.aS ≠ a := Nat.ne_of_lt (Nat.lt_of_lt_of_le (Array.getElem?_eq_some_iff.mp hcS0).1 hnew)
  obtain ⟨iM, hffM⟩ := Y.msg
  obtain ⟨tyC, dC, hdC, hdnC⟩ := Cond.laysAt hfound hk Y.cause (a' (.lays cls Bundle.tN "cause" "Ljava/lang/Throwable;") (by simp [zx_atoms]))
  obtain ⟨tyS, dS, hdS, hdnS⟩ := Cond.laysAt hfound hk Y.stack (a' (.lays cls Bundle.tN "stackTrace" Bundle.steD) (by simp [zx_atoms]))
  obtain ⟨tyP, dP, hdP, hdnP⟩ := Cond.laysAt hfound hk Y.supp (a' (.lays cls Bundle.tN "suppressedExceptions" Bundle.listD) (by simp [zx_atoms]))
  obtain ⟨tyM, dM, hdM, hdnM⟩ := Cond.laysAt hfound hk hffM (a' (.lays cls Bundle.tN "detailMessage" "Ljava/lang/String;") (by simp [zx_atoms]))
  obtain ⟨tyB, dB, hdB, hdnB⟩ := Cond.laysAt hfound hk hffB (a' (.lays cls Bundle.tN "backtrace" "Ljava/lang/Object;") (by simp [zx_atoms]))
  have bC := Cond.laysApart hdB hdC hdnB hdnC (by rw [hnB, Y.causeName]; decide)
  have bS := Cond.laysApart hdB hdS hdnB hdnS (by rw [hnB, Y.stackName]; decide)
  have bP := Cond.laysApart hdB hdP hdnB hdnP (by rw [hnB, Y.suppName]; decide)
  have hskip : SkipFacts T e.platform s (fun u => u) u0 ((preparedCellV T.toThrowableT (freshCell P1.m.cls kX) a u0 sen).withEntry W.cur) :=
    ⟨{ ci198 := ci198, i198 := i198, fBack := fB }, ⟨hk198, hg198, ha198, hsB⟩, by
      have := fresh_default (c := P1.m.cls) tyB
      rw [htB] at this
      simpa [preparedCellV, Cell.setSlot, Cell.withEntry, Array.getElem?_setIfInBounds, bC, bS, bP, bC.symm, bS.symm, bP.symm, defaultValue] using this, fun _ _ => rfl⟩
  obtain ⟨tm, methC, cdC, kC, vm₁, hnC, -, -, -, -, -, -, -, hW₁, st1⟩ := Steps.initColdS (tb := p.tables) (e := e) (below := below) (s := s) (U := W) X.here hexec X.warmed hpl hown (t := Bundle.initS cls) rfl rfl (Bundle.fit_spec hcls).2
    (a' (.methodLink own ic (Bundle.initS cls)) (by simp [zx_atoms])) (h (.instanceMethod (Bundle.initS cls)) (by cases names <;> simp [zx_atoms, zx_catoms, Bundle.passSAtoms])) (bytes := rx) (maxL := 2) (h (.code (Bundle.initS cls) rx 2 none) (by cases names <;> simp [zx_atoms, zx_catoms, Bundle.passSAtoms]))
    (f := g) hg (a := a) (msg := msg) (rest := .ref a :: rest) hstack hd6
  cases Option.some.inj (hnC.symm.trans hP1m)
  have X₁ := X.noted hW₁
  obtain ⟨vm₂, X₂, st2⟩ := X₁.ctorMessageOffV hexec (g := { g with stack := .ref a :: rest }) hg hsize T L Z LZ M LM (P1 :: Ps)
    (fun P hP => by rcases List.mem_cons.mp hP with rfl | hP; exact L1; exact hL P hP) ⟨hlink1, hlink⟩ (u0 := u0) (sen := sen) (self := a) hmsg (cell := freshCell P1.m.cls kX) (cellS := cellS)
    hcell (fun _ => by simp) (by simp) rfl rfl hsel0 hselF hcellS hneS hknownS (by rw [hkeep _ (hout' _)]; exact hu0) (by rw [hkeep _ (hout' _)]; exact hsen)
    (Takes.of_laid hk hord tyC (by rw [Y.causeType]; rfl)) (Takes.of_laid hk hord tyS (by rw [Y.stackType]; exact fits_refV_array _ u0)) (Takes.of_laid hk hord tyP (by rw [Y.suppType]; exact fits_refV_object _ sen))
    (Takes.of_laid hk hord tyM (by rw [Y.msgType]; exact fits_refV_object _ ⟨msg, hmsg⟩)) Y.objLocals hskip htr [] hd6
    (by simp only [List.length_cons, hlen]; omega) (by simp only [List.length_cons, hlen]; exact hRlocals)
  obtain ⟨hwalk, hrun, hended, hWU, hsame⟩ := X₂.athrowLeaves hexec (g := { g with stack := .ref a :: rest, pc := g.pc + 3 }) hg hlocked hentered hout (a := a) (rest := rest) rfl hd9
  have hlt : a < ((W.setVm vm₁).setVm vm₂).heap.size := (Array.getElem?_eq_some_iff.mp hcell).1
  have hU := heapAt_setCell_self (s := (W.setVm vm₁).setVm vm₂) (plainBareV T.toThrowableT (freshCell P1.m.cls kX) a u0 sen msg) hlt
  refine ⟨_, st1 _ (fun acts => ?_), hrun, hended, hWU, hsame.weaken (fun y hy hlt' => ?_) (Nat.le_refl _) (Nat.le_refl _), _, hU, hfound, rfl⟩
  · rw [doInvoke_state]
    exact st2 _ hwalk
  · rcases List.mem_append.mp hy with h1 | h1
    · exact h1
    · exfalso
      have hb : y.base = a := by
        simp only [List.mem_cons, List.not_mem_nil, or_false] at h1
        rcases h1 with rfl | rfl | rfl | rfl | rfl <;> rfl
      rw [hb] at hlt'
      exact Nat.not_lt.mpr hnew hlt'
set_option maxHeartbeats 1000000 in
theorem zx_throwS {p : Program} {l : Launch} {e : Env} {R : Room} {s : State} {m : MethodId} {args : Array Value} {below : List Frame} {meth : Method} {c : Code} {H : Heap} {locs : List Loc} {cells slots : Nat} {free : Addr → Prop} {ls : Array Slot} {rest : List Value} {Qc : Array Value → State → Outcome → State → Prop} {XC : String → State → State → Prop} {ix : Nat} {rx : ByteArray} (x0 : decode rx 0 = .ok (.aload_n 0, 1)) (x1 : decode rx 1 = .ok (.aload_n 1, 1)) (x2 : decode rx 2 = .ok (.invokespecial ix, 3)) (x5 : decode rx 5 = .ok (.return_, 1)) {cc : ByteArray} {pc : Nat} (hexec : p.tables.exec = Jvm.exec) (hb : c.code = cc) (hl : l.stackTraces = false) {own cls text : String} {names : List String} {ik is ic mc ms sa : Nat} {A : Nat → Prop}
    (hown : s.vm.findClass own = some m.cls) (hcls : Bundle.fit cls = true) (hnames : ∀ n ∈ names, Bundle.fit n = true)
    (hk : (Cond.classLink own ik cls).before args s = true) (hini : (Cond.initialized cls).before args s = true) (hstr : vk_R own is text sa s) (hat : ∀ w ∈ zx_atS own ic cls ix rx names, w.before args s = true)
    (hgood : ∀ w ∈ Cond.classLink own ik cls :: Cond.initialized cls :: zx_atS own ic cls ix rx names, vx_ot w = true)
    (hU : vx_Zq Bundle.tN "UNASSIGNED_STACK" Bundle.steD A s s.heap) (hN : vx_Zq Bundle.tN "SUPPRESSED_SENTINEL" Bundle.listD A s s.heap) (hS : va_S A s.heap H locs) (hsize : ls.size = c.maxLocals)
    (d0 : decode cc pc = .ok (.new ik, 3)) (d3 : decode cc (pc + 3) = .ok (.dup, 1)) (d4 : decode cc (pc + 4) = .ok (.ldc is, 2)) (d6 : decode cc (pc + 6) = .ok (.invokespecial ic, 3)) (d9 : decode cc (pc + 9) = .ok (.athrow, 1))
    (hout : ∀ x ∈ c.exceptionTable.toList, covers x (pc + 9) = false)
    (hRframes : names.length + 3 < R.frames) (hRlocals : (rest.map fun v => v.category).sum + (13 * (names.length + 1) + 43) ≤ R.locals) (hRcells : cells + 1 ≤ R.cells) (hRslots : slots + 6 ≤ R.slots) (hlocks : meth.locks = false)
    (hx : ∀ t : State, s.vm.Alike t.vm → H.size ≤ t.heap.size → (∀ q : Nat, q < H.size → t.heap[q]? = H[q]?) → XC cls s t)
    (hf : ∀ z ∈ locs, free z.base) (hc : cells + 1 ≤ mc) (hs : slots + 6 ≤ ms) :
    W p l e R s m args below meth c H locs cells slots (vx_MQ below Qc XC args s mc ms free) (F0 m pc ls rest) := by
  intro T hT X
  have htr : e.platform.stackTraces = false := (show e.platform.stackTraces = l.stackTraces by rw [X.admits.platform]).trans hl
  have Y := vx_rebase X (R' := { frames := R.frames, locals := R.locals, cells := 1, slots := 6 }) (Nat.le_refl _) (Nat.le_refl _) hRcells hRslots
  obtain ⟨s', hA⟩ : ∃ z, z = (T.setVm s.vm).setFrames (.invoking m args :: below) := ⟨_, rfl⟩
  rw [← hA] at Y
  have hvm : s'.vm = s.vm := by rw [hA]; rfl
  have hhp : s'.heap = H := by rw [hA]; exact hT
  have hW0 : s.WarmedH s'.vm := by rw [hvm]; exact State.WarmedH.refl s
  have hat' : ∀ w ∈ zx_atS own ic cls ix rx names, w.before args s' = true := fun w hw => vx_ot_at hW0 hvm.symm (hgood w (List.mem_cons_of_mem _ (List.mem_cons_of_mem _ hw))) (hat w hw)
  have hk' : (Cond.classLink own ik cls).before args s' = true := vx_ot_at hW0 hvm.symm (hgood _ List.mem_cons_self) hk
  have hini' : (Cond.initialized cls).before args s' = true := vx_ot_at hW0 hvm.symm (hgood _ (List.mem_cons_of_mem _ List.mem_cons_self)) hini
  have hU' : vx_Zq Bundle.tN "UNASSIGNED_STACK" Bundle.steD A s' s'.heap := by rw [hhp]; exact vx_Zq.moved hW0.alike (hU.kept hS.2.1)
  have hN' : vx_Zq Bundle.tN "SUPPRESSED_SENTINEL" Bundle.listD A s' s'.heap := by rw [hhp]; exact vx_Zq.moved hW0.alike (hN.kept hS.2.1)
  have h : ∀ w ∈ zx_atoms own ic cls ix rx names, w.before args s' = true := vx_own hat' (vx_isRefq hU'.1) (vx_isRefq hN'.1) hU'.2.word hN'.2.word
  have hown' : s'.vm.findClass own = some m.cls := by rw [hvm]; exact hown
  have hins : (Cond.instantiable cls 6).before args s' = true := h _ (by simp [zx_atoms])
  obtain ⟨vm₁, cX, kX, hfX, hkX, -, -, X₁, st1⟩ := Y.newCold hexec (own := own) (C := cls) (index := ik) (n := 6) hown' hk' hins hini'
    (g := F0 m pc ls rest) rfl (by rw [hb]; exact d0) (Nat.le_refl _) (Nat.le_refl _)
  generalize hT1 : (T.setVm vm₁).pushCell { cls := cX, slots := kX.instanceTypes.map defaultValue, vm := .none } = T1 at X₁ st1
  have hcat : (Value.ref T.heap.size).category = 1 := rfl
  have hcellA : T1.heap[T.heap.size]? = some (freshCell cX kX) := by rw [← hT1]; exact State.heap_pushCell_size _ _
  have d3' : decode c.code (pc + 3) = .ok (.dup, 1) := by rw [hb]; exact d3
  have d4' : decode c.code (pc + 4) = .ok (.ldc is, 2) := by rw [hb]; exact d4
  have hstr' : vk_R own is text sa s' := vk_R.warm hW0 hstr
  obtain ⟨U, hsteps, hrun, hend, hW, hsame, ce, hce, hOc, hOv⟩ := zx_ctor X₁ hexec htr x0 x1 x2 x5 (own := own) (cls := cls) (names := names) (ic := ic) hown' hcls hnames h (fun x hx => nomatch hx) hfX hkX hcellA (by rw [hhp, hT]; exact Nat.le_refl _) (msg := .ref sa) rfl
    (g := { method := m, pc := pc + 6, locals := ls, stack := .ref sa :: .ref T.heap.size :: .ref T.heap.size :: rest, locked := none }) rfl hsize rfl rfl (rest := rest) rfl
    (by rw [hb]; exact d6) (by rw [hb]; exact d9) hout hRframes (by simp only [List.map_cons, List.sum_cons, hcat]; omega) hlocks
  obtain ⟨f1, f2⟩ := vx_frame hsame
  rw [hhp] at f1 f2
  have hWs : s.WarmedH U.vm := State.WarmedH.trans hW0 hW
  have hcl : s.vm.findClass cls = some ce.cls := by
    have h9 := hOc
    rw [hvm] at h9
    exact h9
  have hall : s.sameButNew ({ U with vm := s.vm } : State) locs mc ms := by
    subst hA
    obtain ⟨e1, e2⟩ := hsame
    rw [State.setFrames_setFrames] at e1
    have h2 : (T.setVm s.vm).sameButNew ({ U with vm := s.vm } : State) [] (0 + 1) (0 + 6) := ⟨e1, e2⟩
    have h3 := X.same.trans h2
    rw [List.append_nil] at h3
    exact h3.mono hc hs
  refine ⟨U, ?_, .threw T.heap.size, hrun, hend, Or.inr ⟨T.heap.size, rfl, cls, ce, locs, hx U hWs.alike f1 (fun q hq => f2 q hq (fun z hz => nomatch hz)), hce, hOv, hcl, hWs, hall, hf⟩⟩
  refine st1 _ ?_
  show Steps p.tables e below (T1.setTop { method := m, pc := pc + 3, locals := ls, stack := .ref T.heap.size :: rest, locked := none }) _
  jvm_step X₁.here [X₁.here.top, hexec, d3', Value.category]
  exact X₁.ldcString hexec (own := own) (text := text) (index := is) (a := sa) hown' hstr'.1 hstr'.2
    (g := { method := m, pc := pc + 4, locals := ls, stack := .ref T.heap.size :: .ref T.heap.size :: rest, locked := none }) rfl d4' _ hsteps
set_option maxHeartbeats 1000000 in
theorem zx_throwSW {p : Program} {l : Launch} {e : Env} {R : Room} {s : State} {m : MethodId} {args : Array Value} {below : List Frame} {meth : Method} {c : Code} {H : Heap} {locs : List Loc} {cells slots : Nat} {free : Addr → Prop} {ls : Array Slot} {rest : List Value} {Qc : Array Value → State → Outcome → State → Prop} {XC : String → State → State → Prop} {ix : Nat} {rx : ByteArray} (x0 : decode rx 0 = .ok (.aload_n 0, 1)) (x1 : decode rx 1 = .ok (.aload_n 1, 1)) (x2 : decode rx 2 = .ok (.invokespecial ix, 3)) (x5 : decode rx 5 = .ok (.return_, 1)) {cc : ByteArray} {pc : Nat} (hexec : p.tables.exec = Jvm.exec) (hb : c.code = cc) (hl : l.stackTraces = false) {own cls text : String} {names : List String} {ik is ic mc ms sa : Nat} {A : Nat → Prop}
    (hown : s.vm.findClass own = some m.cls) (hcls : Bundle.fit cls = true) (hnames : ∀ n ∈ names, Bundle.fit n = true)
    (hk : (Cond.classLink own ik cls).before args s = true) (hini : (Cond.initialized cls).before args s = true) (hstr : vk_R own is text sa s) (hat : ∀ w ∈ zx_atS own ic cls ix rx names, w.before args s = true)
    (hgood : ∀ w ∈ Cond.classLink own ik cls :: Cond.initialized cls :: zx_atS own ic cls ix rx names, vx_ot w = true)
    (hU : vx_Zq Bundle.tN "UNASSIGNED_STACK" Bundle.steD A s s.heap) (hN : vx_Zq Bundle.tN "SUPPRESSED_SENTINEL" Bundle.listD A s s.heap) (hS : va_S A s.heap H locs) (hsize : ls.size = c.maxLocals)
    (d0 : decode cc pc = .ok (.new ik, 3)) (d3 : decode cc (pc + 3) = .ok (.dup, 1)) (d4 : decode cc (pc + 4) = .ok (.ldc_w is, 3)) (d7 : decode cc (pc + 7) = .ok (.invokespecial ic, 3)) (d10 : decode cc (pc + 10) = .ok (.athrow, 1))
    (hout : ∀ x ∈ c.exceptionTable.toList, covers x (pc + 10) = false)
    (hRframes : names.length + 3 < R.frames) (hRlocals : (rest.map fun v => v.category).sum + (13 * (names.length + 1) + 43) ≤ R.locals) (hRcells : cells + 1 ≤ R.cells) (hRslots : slots + 6 ≤ R.slots) (hlocks : meth.locks = false)
    (hx : ∀ t : State, s.vm.Alike t.vm → H.size ≤ t.heap.size → (∀ q : Nat, q < H.size → t.heap[q]? = H[q]?) → XC cls s t)
    (hf : ∀ z ∈ locs, free z.base) (hc : cells + 1 ≤ mc) (hs : slots + 6 ≤ ms) :
    W p l e R s m args below meth c H locs cells slots (vx_MQ below Qc XC args s mc ms free) (F0 m pc ls rest) := by
  intro T hT X
  have htr : e.platform.stackTraces = false := (show e.platform.stackTraces = l.stackTraces by rw [X.admits.platform]).trans hl
  have Y := vx_rebase X (R' := { frames := R.frames, locals := R.locals, cells := 1, slots := 6 }) (Nat.le_refl _) (Nat.le_refl _) hRcells hRslots
  obtain ⟨s', hA⟩ : ∃ z, z = (T.setVm s.vm).setFrames (.invoking m args :: below) := ⟨_, rfl⟩
  rw [← hA] at Y
  have hvm : s'.vm = s.vm := by rw [hA]; rfl
  have hhp : s'.heap = H := by rw [hA]; exact hT
  have hW0 : s.WarmedH s'.vm := by rw [hvm]; exact State.WarmedH.refl s
  have hat' : ∀ w ∈ zx_atS own ic cls ix rx names, w.before args s' = true := fun w hw => vx_ot_at hW0 hvm.symm (hgood w (List.mem_cons_of_mem _ (List.mem_cons_of_mem _ hw))) (hat w hw)
  have hk' : (Cond.classLink own ik cls).before args s' = true := vx_ot_at hW0 hvm.symm (hgood _ List.mem_cons_self) hk
  have hini' : (Cond.initialized cls).before args s' = true := vx_ot_at hW0 hvm.symm (hgood _ (List.mem_cons_of_mem _ List.mem_cons_self)) hini
  have hU' : vx_Zq Bundle.tN "UNASSIGNED_STACK" Bundle.steD A s' s'.heap := by rw [hhp]; exact vx_Zq.moved hW0.alike (hU.kept hS.2.1)
  have hN' : vx_Zq Bundle.tN "SUPPRESSED_SENTINEL" Bundle.listD A s' s'.heap := by rw [hhp]; exact vx_Zq.moved hW0.alike (hN.kept hS.2.1)
  have h : ∀ w ∈ zx_atoms own ic cls ix rx names, w.before args s' = true := vx_own hat' (vx_isRefq hU'.1) (vx_isRefq hN'.1) hU'.2.word hN'.2.word
  have hown' : s'.vm.findClass own = some m.cls := by rw [hvm]; exact hown
  have hins : (Cond.instantiable cls 6).before args s' = true := h _ (by simp [zx_atoms])
  obtain ⟨vm₁, cX, kX, hfX, hkX, -, -, X₁, st1⟩ := Y.newCold hexec (own := own) (C := cls) (index := ik) (n := 6) hown' hk' hins hini'
    (g := F0 m pc ls rest) rfl (by rw [hb]; exact d0) (Nat.le_refl _) (Nat.le_refl _)
  generalize hT1 : (T.setVm vm₁).pushCell { cls := cX, slots := kX.instanceTypes.map defaultValue, vm := .none } = T1 at X₁ st1
  have hcat : (Value.ref T.heap.size).category = 1 := rfl
  have hcellA : T1.heap[T.heap.size]? = some (freshCell cX kX) := by rw [← hT1]; exact State.heap_pushCell_size _ _
  have d3' : decode c.code (pc + 3) = .ok (.dup, 1) := by rw [hb]; exact d3
  have d4' : decode c.code (pc + 4) = .ok (.ldc_w is, 3) := by rw [hb]; exact d4
  have hstr' : vk_R own is text sa s' := vk_R.warm hW0 hstr
  obtain ⟨U, hsteps, hrun, hend, hW, hsame, ce, hce, hOc, hOv⟩ := zx_ctor X₁ hexec htr x0 x1 x2 x5 (own := own) (cls := cls) (names := names) (ic := ic) hown' hcls hnames h (fun x hx => nomatch hx) hfX hkX hcellA (by rw [hhp, hT]; exact Nat.le_refl _) (msg := .ref sa) rfl
    (g := { method := m, pc := pc + 7, locals := ls, stack := .ref sa :: .ref T.heap.size :: .ref T.heap.size :: rest, locked := none }) rfl hsize rfl rfl (rest := rest) rfl
    (by rw [hb]; exact d7) (by rw [hb]; exact d10) hout hRframes (by simp only [List.map_cons, List.sum_cons, hcat]; omega) hlocks
  obtain ⟨f1, f2⟩ := vx_frame hsame
  rw [hhp] at f1 f2
  have hWs : s.WarmedH U.vm := State.WarmedH.trans hW0 hW
  have hcl : s.vm.findClass cls = some ce.cls := by
    have h9 := hOc
    rw [hvm] at h9
    exact h9
  have hall : s.sameButNew ({ U with vm := s.vm } : State) locs mc ms := by
    subst hA
    obtain ⟨e1, e2⟩ := hsame
    rw [State.setFrames_setFrames] at e1
    have h2 : (T.setVm s.vm).sameButNew ({ U with vm := s.vm } : State) [] (0 + 1) (0 + 6) := ⟨e1, e2⟩
    have h3 := X.same.trans h2
    rw [List.append_nil] at h3
    exact h3.mono hc hs
  refine ⟨U, ?_, .threw T.heap.size, hrun, hend, Or.inr ⟨T.heap.size, rfl, cls, ce, locs, hx U hWs.alike f1 (fun q hq => f2 q hq (fun z hz => nomatch hz)), hce, hOv, hcl, hWs, hall, hf⟩⟩
  refine st1 _ ?_
  show Steps p.tables e below (T1.setTop { method := m, pc := pc + 3, locals := ls, stack := .ref T.heap.size :: rest, locked := none }) _
  jvm_step X₁.here [X₁.here.top, hexec, d3', Value.category]
  exact X₁.ldcStringW hexec (own := own) (text := text) (index := is) (a := sa) hown' hstr'.1 hstr'.2
    (g := { method := m, pc := pc + 4, locals := ls, stack := .ref T.heap.size :: .ref T.heap.size :: rest, locked := none }) rfl d4' _ hsteps
def zTwX (own : String) (ic ec ix : Nat) (rx : ByteArray) : Prop := Bundle.fit (zexn ec) = true ∧ Cond.initialized (zexn ec) ∈ lw_good ∧ (∀ w ∈ (zx_atS own ic (zexn ec) ix rx znames).filter goodWord, w ∈ lw_good) ∧ (∀ w ∈ (zx_atS own ic (zexn ec) ix rx znames).filter (fun w => !goodWord w), w ∈ zwd) ∧ (∀ w ∈ zx_atS own ic (zexn ec) ix rx znames, vx_ot w = true) ∧ ∀ n ∈ znames, Bundle.fit n = true
def zThX (own : String) (ik is ic ec ix : Nat) (rx : ByteArray) : Prop := Cond.classLink own ik (zexn ec) ∈ lw_good ∧ zTwX own ic ec ix rx ∧ ∃ tx, (own, is, tx) ∈ zmsg
section RULES7
variable {E : Ev} {y : Mt} {Z : Fx → State → Prop} {X : Fx} {pc : Nat} {lo st : List Value} {g : Sh} {i : Ni} {j : Nj} {cu su : Nat} {Q : Kp}
theorem r_throwX {ik is ic ec ix : Nat} {rx : ByteArray} (x0 : decode rx 0 = .ok (.aload_n 0, 1)) (x1 : decode rx 1 = .ok (.aload_n 1, 1)) (x2 : decode rx 2 = .ok (.invokespecial ix, 3)) (x5 : decode rx 5 = .ok (.return_, 1)) (d0 : decode (mB y) pc = .ok (.new ik, 3)) (d3 : decode (mB y) (pc + 3) = .ok (.dup, 1)) (d4 : decode (mB y) (pc + 4) = .ok (.ldc is, 2)) (d6 : decode (mB y) (pc + 6) = .ok (.invokespecial ic, 3)) (d9 : decode (mB y) (pc + 9) = .ok (.athrow, 1))
    (k : zThX (mN y).cls ik is ic ec ix rx) (hH : mH y = []) (hfr : Nat.ble 6 (mM y).frames = true) (hlo : Nat.ble ((st.map fun v => v.category).sum + 82) (mM y).locals = true) (hcu : Nat.ble (cu + 1) (mM y).cells = true) (hsu : Nat.ble (su + 6) (mM y).slots = true) (hq : Q (.inr ec) g i j) : zR E y (zZ E y Q) X pc lo st g i j cu su := by
  obtain ⟨p, e, R, s, m, args, below, meth, cc⟩ := X
  intro C H locs ls hR hS hl
  obtain ⟨hx, hb, -, hml, hown, hts, hE, hlk, hRm, htb, -⟩ := id C
  obtain ⟨k1, k2, tx, k3⟩ := k
  obtain ⟨sa, hstr⟩ := hE.2.2.2.2.2.2.1 _ k3
  rw [hH] at htb
  exact zx_throwS (ix := ix) (rx := rx) x0 x1 x2 x5 (names := znames) hx hb hE.1 hown k2.1 k2.2.2.2.2.2 (hts _ k1) (hts _ k2.2.1) hstr (vx_hat (fun w hw => hts w (k2.2.2.1 w hw)) (k2.2.2.2.1) (fun w hw => zwd_at hE hw))
    (fun w hw => by
      rcases List.mem_cons.mp hw with rfl | hw
      · exact zgood_ot k1
      · rcases List.mem_cons.mp hw with rfl | hw
        · exact zgood_ot k2.2.1
        · exact k2.2.2.2.2.1 w hw) hE.2.2.2.1 hE.2.2.2.2.1 hS (hl.1.trans hml.symm) d0 d3 d4 d6 d9 (fun x hx => by rw [htb] at hx; cases hx)
    (by rw [hRm]; exact Nat.lt_of_lt_of_le (show znames.length + 3 < 6 by decide) (Nat.le_of_ble_eq_true hfr)) (zloc hlo hRm) (by rw [hRm]; exact Nat.le_of_ble_eq_true hcu) (by rw [hRm]; exact Nat.le_of_ble_eq_true hsu) hlk
    (fun t _ h1 h2 => ⟨ec, g, i, j, rfl, hR.kept h2, hq, ⟨Nat.le_trans hS.1 h1, fun q h3 h4 => (h2 q (Nat.lt_of_lt_of_le h3 hS.1)).trans (hS.2.1 q h3 h4)⟩⟩) hS.2.2 (Nat.le_of_ble_eq_true hcu) (Nat.le_of_ble_eq_true hsu)end RULES7
section RULES8
variable {E : Ev} {y : Mt} {Z : Fx → State → Prop} {X : Fx} {pc : Nat} {lo st : List Value} {g : Sh} {i : Ni} {j : Nj} {cu su : Nat} {Q : Kp}
theorem r_throwwX {ik is ic ec ix : Nat} {rx : ByteArray} (x0 : decode rx 0 = .ok (.aload_n 0, 1)) (x1 : decode rx 1 = .ok (.aload_n 1, 1)) (x2 : decode rx 2 = .ok (.invokespecial ix, 3)) (x5 : decode rx 5 = .ok (.return_, 1)) (d0 : decode (mB y) pc = .ok (.new ik, 3)) (d3 : decode (mB y) (pc + 3) = .ok (.dup, 1)) (d4 : decode (mB y) (pc + 4) = .ok (.ldc_w is, 3)) (d6 : decode (mB y) (pc + 7) = .ok (.invokespecial ic, 3)) (d9 : decode (mB y) (pc + 10) = .ok (.athrow, 1))
    (k : zThX (mN y).cls ik is ic ec ix rx) (hH : mH y = []) (hfr : Nat.ble 6 (mM y).frames = true) (hlo : Nat.ble ((st.map fun v => v.category).sum + 82) (mM y).locals = true) (hcu : Nat.ble (cu + 1) (mM y).cells = true) (hsu : Nat.ble (su + 6) (mM y).slots = true) (hq : Q (.inr ec) g i j) : zR E y (zZ E y Q) X pc lo st g i j cu su := by
  obtain ⟨p, e, R, s, m, args, below, meth, cc⟩ := X
  intro C H locs ls hR hS hl
  obtain ⟨hx, hb, -, hml, hown, hts, hE, hlk, hRm, htb, -⟩ := id C
  obtain ⟨k1, k2, tx, k3⟩ := k
  obtain ⟨sa, hstr⟩ := hE.2.2.2.2.2.2.1 _ k3
  rw [hH] at htb
  exact zx_throwSW (ix := ix) (rx := rx) x0 x1 x2 x5 (names := znames) hx hb hE.1 hown k2.1 k2.2.2.2.2.2 (hts _ k1) (hts _ k2.2.1) hstr (vx_hat (fun w hw => hts w (k2.2.2.1 w hw)) (k2.2.2.2.1) (fun w hw => zwd_at hE hw))
    (fun w hw => by
      rcases List.mem_cons.mp hw with rfl | hw
      · exact zgood_ot k1
      · rcases List.mem_cons.mp hw with rfl | hw
        · exact zgood_ot k2.2.1
        · exact k2.2.2.2.2.1 w hw) hE.2.2.2.1 hE.2.2.2.2.1 hS (hl.1.trans hml.symm) d0 d3 d4 d6 d9 (fun x hx => by rw [htb] at hx; cases hx)
    (by rw [hRm]; exact Nat.lt_of_lt_of_le (show znames.length + 3 < 6 by decide) (Nat.le_of_ble_eq_true hfr)) (zloc hlo hRm) (by rw [hRm]; exact Nat.le_of_ble_eq_true hcu) (by rw [hRm]; exact Nat.le_of_ble_eq_true hsu) hlk
    (fun t _ h1 h2 => ⟨ec, g, i, j, rfl, hR.kept h2, hq, ⟨Nat.le_trans hS.1 h1, fun q h3 h4 => (h2 q (Nat.lt_of_lt_of_le h3 hS.1)).trans (hS.2.1 q h3 h4)⟩⟩) hS.2.2 (Nat.le_of_ble_eq_true hcu) (Nat.le_of_ble_eq_true hsu)
end RULES8
