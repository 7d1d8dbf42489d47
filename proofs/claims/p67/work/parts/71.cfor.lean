/-! ===== THE CLASS: FORECASTS ===== -/
def zY (g : Sh) (c rd tx ur sl sf sb : Nat) (A : Nat → Nat → Nat) : Prop :=
  gT g c = 4 ∧ gR g c 0 = rd ∧ gR g c 1 = A 0 0 ∧ gR g c 2 = A 1 0 ∧ gR g c 3 = ur ∧ gR g c 4 = sl ∧ gR g c 5 = sf ∧ gR g c 6 = sb ∧
  (gT g rd = 2 ∧ gR g rd 0 = tx ∧ gR g rd 1 = A 2 0) ∧ (gT g tx = 12 ∧ gL g tx = 600) ∧ (gT g ur = 16 ∧ gL g ur = 6 ∧ ∀ q, q < 6 → gR g ur q = A (3 + q) 0) ∧ (gT g sl = 16 ∧ gL g sl = 2 ∧ ∀ q, q < 2 → gR g sl q = A (9 + q) 0) ∧ (gT g sf = 13 ∧ gL g sf = 2) ∧ gT g sb = 6 ∧
  (∀ n, n < 11 → zC g (A n)) ∧ ∀ n m p q, n < 11 → m < 11 → n ≠ m → p < 30 → q < 30 → A n p ≠ A m q
def zNo (i : Ni) (a : Nat → Nat) : Prop := ∀ z, z < 8 → i (a (6 + 3 * z)) 0 = nI z
section
variable {g : Sh} {c rd tx ur sl sf sb : Nat} {A : Nat → Nat → Nat}
theorem zY.cc (h : zY g c rd tx ur sl sf sb A) {n : Nat} (hn : n < 11) : zC g (A n) := by
  obtain ⟨-, -, -, -, -, -, -, -, -, -, -, -, -, -, h15, -⟩ := h
  exact h15 n hn
theorem zY.ne (h : zY g c rd tx ur sl sf sb A) {n m p q : Nat} (hn : n < 11) (hm : m < 11) (hnm : n ≠ m) (hp : p < 30) (hq : q < 30) : A n p ≠ A m q := by
  obtain ⟨-, -, -, -, -, -, -, -, -, -, -, -, -, -, -, h16⟩ := h
  exact h16 n m p q hn hm hnm hp hq
theorem zY.x (h : zY g c rd tx ur sl sf sb A) : zX3 g c (A 0) := ⟨h.1, h.2.2.1, h.cc (by decide)⟩
end
theorem zOu.h {i i' : Ni} {a b : Nat → Nat} {N : Nat → Int32} (h : zH i b N) (o : zOu a i' i) (hab : ∀ p q, p < 30 → q < 30 → b p ≠ a q) : zH i' b N := h.ou (fun c hc => o _ (fun c' hc' => hab c c' hc hc'))

