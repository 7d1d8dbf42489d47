/-! ===== P67: ACTS ===== -/
section
variable {E : Ev} {g : Sh} {i : Ni} {j : Nj} {K : Kp} {c rd tx ur sl sf sb u w : Nat} {A : Nat → Nat → Nat} {N : Nat → Int32}
theorem a_pass {x : Nat} (hY : zY g c rd tx ur sl sf sb A) (hH : zH i (A 0) N) (hu : i c 7 = nI u) (hu6 : u < 6) (hw : i c 8 = nI w) (hw6 : w ≤ 6) (hN : zNo i (A (3 + u))) (h1 : 1 ≤ x) (h2 : x ≤ 300) (hK : ∀ i' : Ni, zAc c A u w i' i N (sWalk N x) → K (.inl (some (.int (sLost (sWalk N x) (zn (N 3)) - sLost N (zn (N 3)))))) g i' j) : zCon E mX3_pass [.ref c, .int (nI x)] g i j K := by
  have e : (nI x).toInt = (x : Int) := nI_toInt (by omega)
  have z : zn (nI x) = x := zn_nI (by omega)
  refine c_X3_pass hY hH hu hu6 hw hw6 hN (fun h => absurd ⟨by omega, by omega⟩ h) (fun h i1 a1 => ?_)
  rw [z] at a1 ⊢
  exact hK i1 a1
theorem a_setRoom {v : Int32} (hY : zY g c rd tx ur sl sf sb A) (hH : zH i (A 0) N) (hu : i c 7 = nI u) (hu6 : u < 6) (hw : i c 8 = nI w) (hw6 : w ≤ 6) (hN : zNo i (A (3 + u))) (h : zIn v (-20) 150) (hK : ∀ i' : Ni, zAc c A u w i' i N (upd N 0 v) → K (.inl (some (.int (N 0)))) g i' j) : zCon E mX3_setRoom [.ref c, .int v] g i j K :=
  c_X3_setRoom hY hH hu hu6 hw hw6 hN (fun hn => absurd h hn) (fun _ i1 a1 => hK i1 a1)
theorem a_layThumb {k x : Nat} (hY : zY g c rd tx ur sl sf sb A) (hH : zH i (A 0) N) (hu : i c 7 = nI u) (hu6 : u < 6) (hw : i c 8 = nI w) (hw6 : w ≤ 6) (hN : zNo i (A (3 + u))) (hk : k < zn (N 5)) (h1 : 1 ≤ x) (h2 : x ≤ 60) (hK : ∀ i' : Ni, zAc c A u w i' i N (upd (upd N 6 (nI k)) 7 (nI x)) → K (.inl (some (.int (N 6)))) g i' j) : zCon E mX3_layThumb [.ref c, .int (nI k), .int (nI x)] g i j K := by
  have h8 := hH.1.k8 hk
  have e : (nI x).toInt = (x : Int) := nI_toInt (by omega)
  exact c_X3_layThumb hY hH hu hu6 hw hw6 hN (fun hn => absurd ⟨tv_mk hk (by omega), by omega, by omega⟩ hn) (fun _ _ i1 a1 => hK i1 a1)
theorem a_setLeaky {k : Nat} {v : Int32} (hY : zY g c rd tx ur sl sf sb A) (hH : zH i (A 0) N) (hu : i c 7 = nI u) (hu6 : u < 6) (hw : i c 8 = nI w) (hw6 : w ≤ 6) (hN : zNo i (A (3 + u))) (hk : k < zn (N 5)) (hv : v = nI 0 ∨ v = nI 1) (hK : ∀ i' : Ni, zAc c A u w i' i N (upd N (42 + 21 * k + 6) v) → K (.inl (some (.int (zb (N (42 + 21 * k + 6) = nI 1))))) g i' j) : zCon E mX3_setLeaky [.ref c, .int (nI k), .int v] g i j K := by
  have h8 := hH.1.k8 hk
  have z : zn (nI k) = k := zn_nI (by omega)
  have key : ∀ (P : Prop) (dP : Decidable P), v = zb P → zCon E mX3_setLeaky [.ref c, .int (nI k), .int v] g i j K := by
    intro P dP e
    subst e
    refine c_X3_setLeaky hY hH hu hu6 hw hw6 hN (fun hn => absurd (tv_mk hk (by omega)) hn) (fun _ i1 a1 => ?_)
    rw [z] at a1 ⊢
    exact hK i1 a1
  rcases hv with e | e
  · exact key False inferInstance (e.trans (zb_f not_false).symm)
  · exact key True inferInstance (e.trans (zb_t trivial).symm)
theorem a_erasePoint {k q : Nat} (hY : zY g c rd tx ur sl sf sb A) (hH : zH i (A 0) N) (hu : i c 7 = nI u) (hu6 : u < 6) (hw : i c 8 = nI w) (hw6 : w ≤ 6) (hN : zNo i (A (3 + u))) (hk : k < zn (N 5)) (hq : q < sMany N k) (hK : ∀ i' : Ni, zAc c A u w i' i N (sErase N k q) → K (.inl (some (.int (sHgt N k q)))) g i' j) : zCon E mX3_erasePoint [.ref c, .int (nI k), .int (nI q)] g i j K := by
  have h8 := hH.1.k8 hk
  have h6 := (hH.1.many hk).2
  have z : zn (nI k) = k := zn_nI (by omega)
  have zq : zn (nI q) = q := zn_nI (by omega)
  refine c_X3_erasePoint hY hH hu hu6 hw hw6 hN (fun hn => absurd ⟨tv_mk hk (by omega), pv_mk hk (by omega) hq (by omega)⟩ hn) (fun _ _ i1 a1 => ?_)
  rw [z, zq] at a1 ⊢
  exact hK i1 a1
end
set_option maxHeartbeats 4000000 in
set_option maxRecDepth 20000 in
theorem c_L_dipped {E : Ev} {g : Sh} {i : Ni} {j : Nj} {K : Kp} {k b : Nat} {c rd tx ur sl sf sb u w : Nat} {A : Nat → Nat → Nat} {N : Nat → Int32} (hY : zY g c rd tx ur sl sf sb A) (hH : zH i (A 0) N) (hu : i c 7 = nI u) (hu6 : u < 6) (hw : i c 8 = nI w) (hw6 : w ≤ 6) (hN : zNo i (A (3 + u))) (hk : k < zn (N 5)) (hb : b < zn (N 4)) (hK0 : K (.inl (some (.int (-9999)))) g i j) (hK1 : sDip N k (nI b) = 0 → ∀ i' : Ni, zAc c A u w i' i N (upd N (42 + 21 * k + 7) (nI b)) → K (.inl (some (.int (sAround (upd N (42 + 21 * k + 7) (nI b)) k)))) g i' j) : zCon E mL_dipped [.ref c, .int (nI k), .int (nI b)] g i j K := by
  refine zcon_ofH (by decide +kernel) rfl rfl (lo := [.ref c, .int (nI k), .int (nI b), zJ]) rfl (fun X => ?_)
  have x1 := hY.1
  have h8 := hH.1.k8 hk
  have h4 := hH.1.B4.2
  have z : zn (nI k) = k := zn_nI (by omega)
  have hA : dA N (nI k) (nI b) := ⟨tv_mk hk (by omega), tv_mk hb (by omega)⟩
  have Kx : ∀ (r : Nat), zR E mL_dipped (zZ E mL_dipped K) X 7 [.ref c, .int (nI k), .int (nI b), zJ] [.ref r] g i j 3 18 := by
    intro r
    refine r_as_4_3 qL_dipped_7 rfl rfl ?_
    refine r_sipush (v := (-9999)) qL_dipped_8 (by decide) ?_
    refine r_iret qL_dipped_11 rfl rfl rfl rfl ?_
    exact hK0
  by_cases hB2 : sDip N k (nI b) = 0
  · have hB : dB N (nI k) (nI b) := ⟨hA, by rw [z]; exact hB2⟩
    refine r_aload_n qL_dipped_0 rfl ?_
    refine r_iload_n qL_dipped_1 rfl ?_
    refine r_iload_n qL_dipped_2 rfl ?_
    refine r_cv2 (cu2 := 3) (su2 := 18) qL_dipped_3 kL_204 rfl (by decide +kernel) (c := 3) (by assumption) (by decide) rfl rfl rfl rfl rfl rfl ?_
    refine c_X3_dip hY hH hu hu6 hw hw6 hN (fun hn => absurd ⟨hA, hB⟩ hn) (fun _ _ i1 a1 => ?_)
    rw [z] at a1 ⊢
    show zR E _ _ X 6 _ _ _ _ _ _ _
    refine r_iret qL_dipped_6 rfl rfl rfl rfl ?_
    exact hK1 hB2 i1 a1
  · have hB : ¬ dB N (nI k) (nI b) := fun h => hB2 (by have h9 := h.2; rw [z] at h9; exact h9)
    refine r_aload_n qL_dipped_0 rfl ?_
    refine r_iload_n qL_dipped_1 rfl ?_
    refine r_iload_n qL_dipped_2 rfl ?_
    refine r_cv2 (cu2 := 3) (su2 := 18) qL_dipped_3 kL_204 rfl (by decide +kernel) (c := 3) (by assumption) (by decide) rfl rfl rfl rfl rfl rfl ?_
    refine c_X3_dip hY hH hu hu6 hw hw6 hN (fun _ => ?_) (fun _ h _ _ => absurd h hB)
    rw [oc3_b hA hB]
    show zT E _ _ X _ _ _ _ _ _ _ _
    exact t_catch (pre := []) (x := (0, 6, 7, 207)) (suf := []) rfl (fun z hz => absurd hz List.not_mem_nil) (by decide) (by decide) cl_207 (by decide) Kx
set_option maxHeartbeats 4000000 in
set_option maxRecDepth 20000 in
theorem c_L_lifted {E : Ev} {g : Sh} {i : Ni} {j : Nj} {K : Kp} {k : Nat} {c rd tx ur sl sf sb u w : Nat} {A : Nat → Nat → Nat} {N : Nat → Int32} (hY : zY g c rd tx ur sl sf sb A) (hH : zH i (A 0) N) (hu : i c 7 = nI u) (hu6 : u < 6) (hw : i c 8 = nI w) (hw6 : w ≤ 6) (hN : zNo i (A (3 + u))) (hk : k < zn (N 5)) (hK0 : K (.inl (some (.int (-9999)))) g i j) (hK1 : ¬ N (42 + 21 * k + 7) = -1 → ∀ i' : Ni, zAc c A u w i' i N (upd N (42 + 21 * k + 7) (-1)) → K (.inl (some (.int (N (42 + 21 * k + 7))))) g i' j) : zCon E mL_lifted [.ref c, .int (nI k)] g i j K := by
  refine zcon_ofH (by decide +kernel) rfl rfl (lo := [.ref c, .int (nI k), zJ]) rfl (fun X => ?_)
  have x1 := hY.1
  have h8 := hH.1.k8 hk
  have z : zn (nI k) = k := zn_nI (by omega)
  have hA : tv (N 5) (nI k) := tv_mk hk (by omega)
  have Kx : ∀ (r : Nat), zR E mL_lifted (zZ E mL_lifted K) X 6 [.ref c, .int (nI k), zJ] [.ref r] g i j 2 12 := by
    intro r
    refine r_as_3_2 qL_lifted_6 rfl rfl ?_
    refine r_sipush (v := (-9999)) qL_lifted_7 (by decide) ?_
    refine r_iret qL_lifted_10 rfl rfl rfl rfl ?_
    exact hK0
  by_cases hB2 : N (42 + 21 * k + 7) = -1
  · have hB : ¬ lB N (nI k) := fun h => h.2 (by rw [z]; exact hB2)
    refine r_aload_n qL_lifted_0 rfl ?_
    refine r_iload_n qL_lifted_1 rfl ?_
    refine r_cv1 (cu2 := 2) (su2 := 12) qL_lifted_2 kL_209 rfl (by decide +kernel) (c := 3) (by assumption) (by decide) rfl rfl rfl rfl rfl rfl ?_
    refine c_X3_lift hY hH hu hu6 hw hw6 hN (fun _ => ?_) (fun _ h _ _ => absurd h hB)
    rw [oc3_b hA hB]
    show zT E _ _ X _ _ _ _ _ _ _ _
    exact t_catch (pre := []) (x := (0, 5, 6, 207)) (suf := []) rfl (fun z hz => absurd hz List.not_mem_nil) (by decide) (by decide) cl_207 (by decide) Kx
  · have hB : lB N (nI k) := ⟨hA, by rw [z]; exact hB2⟩
    refine r_aload_n qL_lifted_0 rfl ?_
    refine r_iload_n qL_lifted_1 rfl ?_
    refine r_cv1 (cu2 := 2) (su2 := 12) qL_lifted_2 kL_209 rfl (by decide +kernel) (c := 3) (by assumption) (by decide) rfl rfl rfl rfl rfl rfl ?_
    refine c_X3_lift hY hH hu hu6 hw hw6 hN (fun hn => absurd ⟨hA, hB⟩ hn) (fun _ _ i1 a1 => ?_)
    rw [z] at a1 ⊢
    show zR E _ _ X 5 _ _ _ _ _ _ _
    refine r_iret qL_lifted_5 rfl rfl rfl rfl ?_
    exact hK1 hB2 i1 a1
set_option maxHeartbeats 4000000 in
set_option maxRecDepth 20000 in
theorem c_L_marked {E : Ev} {g : Sh} {i : Ni} {j : Nj} {K : Kp} {k : Nat} {c rd tx ur sl sf sb u w : Nat} {A : Nat → Nat → Nat} {N : Nat → Int32} (hY : zY g c rd tx ur sl sf sb A) (hH : zH i (A 0) N) (hu : i c 7 = nI u) (hu6 : u < 6) (hw : i c 8 = nI w) (hw6 : w ≤ 6) (hN : zNo i (A (3 + u))) (hk : k < zn (N 5)) (hK0 : K (.inl (some (.int (-9999)))) g i j) (hK1 : sMark N k = 0 → ∀ i' : Ni, zAc c A u w i' i N (sPut N k) → K (.inl (some (.int (nI (sMany N k + 1))))) g i' j) : zCon E mL_marked [.ref c, .int (nI k)] g i j K := by
  refine zcon_ofH (by decide +kernel) rfl rfl (lo := [.ref c, .int (nI k), zJ]) rfl (fun X => ?_)
  have x1 := hY.1
  have h8 := hH.1.k8 hk
  have z : zn (nI k) = k := zn_nI (by omega)
  have hA : tv (N 5) (nI k) := tv_mk hk (by omega)
  have Kx : ∀ (r : Nat), zR E mL_marked (zZ E mL_marked K) X 6 [.ref c, .int (nI k), zJ] [.ref r] g i j 2 12 := by
    intro r
    refine r_as_3_2 qL_marked_6 rfl rfl ?_
    refine r_sipush (v := (-9999)) qL_marked_7 (by decide) ?_
    refine r_iret qL_marked_10 rfl rfl rfl rfl ?_
    exact hK0
  by_cases hB2 : sMark N k = 0
  · have hB : kB N (nI k) := ⟨hA, by rw [z]; exact hB2⟩
    refine r_aload_n qL_marked_0 rfl ?_
    refine r_iload_n qL_marked_1 rfl ?_
    refine r_cv1 (cu2 := 2) (su2 := 12) qL_marked_2 kL_212 rfl (by decide +kernel) (c := 3) (by assumption) (by decide) rfl rfl rfl rfl rfl rfl ?_
    refine c_X3_mark hY hH hu hu6 hw hw6 hN (fun hn => absurd ⟨hA, hB⟩ hn) (fun _ _ i1 a1 => ?_)
    rw [z] at a1 ⊢
    show zR E _ _ X 5 _ _ _ _ _ _ _
    refine r_iret qL_marked_5 rfl rfl rfl rfl ?_
    exact hK1 hB2 i1 a1
  · have hB : ¬ kB N (nI k) := fun h => hB2 (by have h9 := h.2; rw [z] at h9; exact h9)
    refine r_aload_n qL_marked_0 rfl ?_
    refine r_iload_n qL_marked_1 rfl ?_
    refine r_cv1 (cu2 := 2) (su2 := 12) qL_marked_2 kL_212 rfl (by decide +kernel) (c := 3) (by assumption) (by decide) rfl rfl rfl rfl rfl rfl ?_
    refine c_X3_mark hY hH hu hu6 hw hw6 hN (fun _ => ?_) (fun _ h _ _ => absurd h hB)
    rw [oc3_b hA hB]
    show zT E _ _ X _ _ _ _ _ _ _ _
    exact t_catch (pre := []) (x := (0, 5, 6, 207)) (suf := []) rfl (fun z hz => absurd hz List.not_mem_nil) (by decide) (by decide) cl_207 (by decide) Kx
set_option maxHeartbeats 4000000 in
set_option maxRecDepth 20000 in
theorem c_L_topped {E : Ev} {g : Sh} {i : Ni} {j : Nj} {K : Kp} {k x : Nat} {c rd tx ur sl sf sb u w : Nat} {A : Nat → Nat → Nat} {N : Nat → Int32} (hY : zY g c rd tx ur sl sf sb A) (hH : zH i (A 0) N) (hu : i c 7 = nI u) (hu6 : u < 6) (hw : i c 8 = nI w) (hw6 : w ≤ 6) (hN : zNo i (A (3 + u))) (hk : k < zn (N 5)) (h1 : 1 ≤ x) (h2 : x ≤ 999) (hK0 : K (.inl (some (.int (-9999)))) g i j) (hK1 : ¬ nI 999 < N (42 + 21 * k + 4) + nI x → ∀ i' : Ni, zAc c A u w i' i N (aPour N k (nI x)) → K (.inl (some (.int (N (42 + 21 * k + 4) + nI x)))) g i' j) : zCon E mL_topped [.ref c, .int (nI k), .int (nI x)] g i j K := by
  refine zcon_ofH (by decide +kernel) rfl rfl (lo := [.ref c, .int (nI k), .int (nI x), zJ]) rfl (fun X => ?_)
  have x1 := hY.1
  have h8 := hH.1.k8 hk
  have z : zn (nI k) = k := zn_nI (by omega)
  have hA : tv (N 5) (nI k) := tv_mk hk (by omega)
  have e : (nI x).toInt = (x : Int) := nI_toInt (by omega)
  have hR : 1 ≤ (nI x).toInt ∧ (nI x).toInt ≤ 999 := by omega
  have Kx : ∀ (r : Nat), zR E mL_topped (zZ E mL_topped K) X 7 [.ref c, .int (nI k), .int (nI x), zJ] [.ref r] g i j 3 18 := by
    intro r
    refine r_as_4_3 qL_topped_7 rfl rfl ?_
    refine r_sipush (v := (-9999)) qL_topped_8 (by decide) ?_
    refine r_iret qL_topped_11 rfl rfl rfl rfl ?_
    exact hK0
  by_cases hB2 : nI 999 < N (42 + 21 * k + 4) + nI x
  · have hB : ¬ fB N (nI k) (nI x) := fun h => h.2.2 (by rw [z]; exact hB2)
    refine r_aload_n qL_topped_0 rfl ?_
    refine r_iload_n qL_topped_1 rfl ?_
    refine r_iload_n qL_topped_2 rfl ?_
    refine r_cv2 (cu2 := 3) (su2 := 18) qL_topped_3 kL_215 rfl (by decide +kernel) (c := 3) (by assumption) (by decide) rfl rfl rfl rfl rfl rfl ?_
    refine c_X3_topUp hY hH hu hu6 hw hw6 hN (fun _ => ?_) (fun _ _ h _ _ => absurd h hB)
    rw [oc3_c hA hR hB]
    show zT E _ _ X _ _ _ _ _ _ _ _
    exact t_catch (pre := []) (x := (0, 6, 7, 207)) (suf := []) rfl (fun z hz => absurd hz List.not_mem_nil) (by decide) (by decide) cl_207 (by decide) Kx
  · have hB : fB N (nI k) (nI x) := ⟨hA, hR, by rw [z]; exact hB2⟩
    refine r_aload_n qL_topped_0 rfl ?_
    refine r_iload_n qL_topped_1 rfl ?_
    refine r_iload_n qL_topped_2 rfl ?_
    refine r_cv2 (cu2 := 3) (su2 := 18) qL_topped_3 kL_215 rfl (by decide +kernel) (c := 3) (by assumption) (by decide) rfl rfl rfl rfl rfl rfl ?_
    refine c_X3_topUp hY hH hu hu6 hw hw6 hN (fun hn => absurd ⟨hA, hR, hB⟩ hn) (fun _ _ _ i1 a1 => ?_)
    rw [z] at a1 ⊢
    show zR E _ _ X 6 _ _ _ _ _ _ _
    refine r_iret qL_topped_6 rfl rfl rfl rfl ?_
    exact hK1 hB2 i1 a1
theorem in_ne {v : Int32} {a b : Int} (h : zIn v a b) (ha : -9999 < a) : ¬ v = -9999 := fun e => by
  have := h.1
  rw [e, show ((-9999 : Int32)).toInt = -9999 by decide] at this
  omega
theorem nI_m9 {q : Nat} (h : q < 2 ^ 31) : ¬ nI q = -9999 := fun e => by
  have := nI_toInt h
  rw [e, show ((-9999 : Int32)).toInt = -9999 by decide] at this
  omega
theorem room_in {n : Nat} : zIn (nI (n % 171) - nI 20) (-20) 150 := by
  have h : n % 171 < 171 := Nat.mod_lt _ (by decide)
  have e : (nI (n % 171) - nI 20).toInt = ((n % 171 : Nat) : Int) - 20 := by
    rw [Int32.toInt_sub, nI_toInt (by omega), nI_toInt (by decide), Int.bmod_eq_of_le] <;> omega
  exact ⟨by omega, by omega⟩
theorem mark_6 {N : Nat → Int32} {k : Nat} (h : sMark N k = 0) : ¬ sMany N k = 6 := by
  intro h6
  rw [sMark] at h
  split at h
  · exact absurd h (by decide)
  · split at h
    · exact absurd h (by decide)
    · split at h
      · exact absurd h (by decide)
      · split at h
        · exact absurd h (by decide)
        · first | exact absurd h (by decide) | (rw [if_pos h6] at h; exact absurd h (by decide))
theorem pour_in {a : Int32} {x : Nat} (ha : zIn a 0 999) (hx : x ≤ 999) (h : ¬ nI 999 < a + nI x) : zIn (a + nI x) 0 999 := by
  obtain ⟨a1, a2⟩ := ha
  have e : (a + nI x).toInt = a.toInt + x := by
    rw [Int32.toInt_add, nI_toInt (by omega), Int.bmod_eq_of_le] <;> omega
  have h2 := Int32.not_lt.mp h
  rw [Int32.le_iff_toInt_le, nI_toInt (by decide)] at h2
  exact ⟨by omega, h2⟩
set_option maxHeartbeats 4000000 in
set_option maxRecDepth 20000 in
theorem c_L_act {E : Ev} {g : Sh} {i : Ni} {j : Nj} {K : Kp} {k : Nat} {c rd tx ur sl sf sb u w : Nat} {A : Nat → Nat → Nat} {N : Nat → Int32} (hY : zY g c rd tx ur sl sf sb A) (hH : zH i (A 0) N) (hu : i c 7 = nI u) (hu6 : u < 6) (hw : i c 8 = nI w) (hw6 : w ≤ 6) (hN : zNo i (A (3 + u))) (hk9 : k < 900) (hD : dOk E N) (hB : jB N) (hK0 : K (.inl (some (.int (-9999)))) g i j) (hK1 : ∀ (v : Int32) (N' : Nat → Int32) (i' : Ni), ¬ v = -9999 → zAc c A u w i' i N N' → dOk E N' → jB N' → K (.inl (some (.int v))) g i' j) : zCon E mL_act [.ref c, .ref (eS E 4 + 1), .int (nI k)] g i j K := by
  refine zcon_of (by decide +kernel) rfl rfl (lo := [.ref c, .ref (eS E 4 + 1), .int (nI k), zJ, zJ, zJ, zJ]) rfl (fun X => ?_)
  have x1 := hY.1
  have hO := hH.1
  have hX := hY.x
  have hT5 := vT_lt E
  have hB4 := vB_lt E
  have eT := hD.T
  have eB := hD.B
  have c5 : (100000 : Int32) = nI 100000 := by decide
  have hn9 : dw E (k + 1) 100000 < 100000 := dw_lt E _ (by decide)
  have hm9 : dw E (k + 2) 100000 < 100000 := dw_lt E _ (by decide)
  generalize hn : dw E (k + 1) 100000 = n at hn9
  generalize hm : dw E (k + 2) 100000 = m at hm9
  have l90 : n % 90 < 90 := Nat.mod_lt _ (by decide)
  have l20 : m % 20 < 20 := Nat.mod_lt _ (by decide)
  have l300 : m % 300 < 300 := Nat.mod_lt _ (by decide)
  have kp : ∀ {z : Nat} {v : Int32}, (z < 3 ∨ z = 6 ∨ z = 7 ∨ z = 9 ∨ ∃ k q, 5 ≤ q ∧ q < 21 ∧ z = 42 + 21 * k + q) → dOk E (upd N z v) ∧ jB (upd N z v) := fun h => ⟨(bKp_upd h).k.d hD, (bKp_upd h).b hO hB⟩
  have r100 : zIn (N 0 + nI 100) 80 250 := by
    obtain ⟨h1, h2⟩ := hO.2.2.2.2.1
    have e : (N 0 + nI 100).toInt = (N 0).toInt + 100 := by
      rw [Int32.toInt_add, nI_toInt (by decide), Int.bmod_eq_of_le] <;> omega
    exact ⟨by omega, by omega⟩
  have n6 : ¬ N 6 = -9999 := by
    rcases hO.2.2.2.2.2.1 with h | ⟨⟨q, h, hq⟩, -⟩
    · rw [h]; decide
    · rw [h]; exact nI_m9 (by omega)
  have K90 : ¬ vT E = 0 → zR E mL_act (zZ E mL_act K) X 90 [.ref c, .ref (eS E 4 + 1), .int (nI k), .int (nI n), .int (nI m), .int (nI (dw E k 24)), .int (nI (n % vT E))] [] g i j 0 0 := by
    intro h0
    have ht : n % vT E < vT E := Nat.mod_lt _ (by omega)
    generalize n % vT E = t at ht
    have htN : t < zn (N 5) := by omega
    have h8 := hO.k8 htN
    obtain ⟨hmm, hm6⟩ := hO.many htN
    have t4 := (hO.tu htN).2.2.2.2.1
    have kq : ∀ {q : Nat} {v : Int32}, 5 ≤ q → q < 21 → dOk E (upd N (42 + 21 * t + q) v) ∧ jB (upd N (42 + 21 * t + q) v) := fun h1 h2 => kp (Or.inr (Or.inr (Or.inr (Or.inr ⟨t, _, h1, h2, rfl⟩))))
    refine r_iload qL_act_90 rfl ?_
    refine r_bipush (v := nI 13) qL_act_92 (by decide) ?_
    refine r_icmp_ge (t := 124) qL_act_94 (by decide) (fun hc94 => ?_) (fun hc94 => ?_)
    · refine r_iload qL_act_124 rfl ?_
      refine r_bipush (v := nI 18) qL_act_126 (by decide) ?_
      refine r_icmp_ge (t := 138) qL_act_128 (by decide) (fun hc128 => ?_) (fun hc128 => ?_)
      · refine r_iload qL_act_138 rfl ?_
        refine r_bipush (v := nI 18) qL_act_140 (by decide) ?_
        refine r_icmp_ne (t := 152) qL_act_142 (by decide) (fun hc142 => ?_) (fun hc142 => ?_)
        · refine r_iload qL_act_152 rfl ?_
          refine r_bipush (v := nI 19) qL_act_154 (by decide) ?_
          refine r_icmp_ne (t := 173) qL_act_156 (by decide) (fun hc156 => ?_) (fun hc156 => ?_)
          · refine r_iload qL_act_173 rfl ?_
            refine r_bipush (v := nI 20) qL_act_175 (by decide) ?_
            refine r_icmp_ne (t := 195) qL_act_177 (by decide) (fun hc177 => ?_) (fun hc177 => ?_)
            · refine r_iload qL_act_195 rfl ?_
              refine r_bipush (v := nI 21) qL_act_197 (by decide) ?_
              refine r_icmp_ne (t := 229) qL_act_199 (by decide) (fun hc199 => ?_) (fun hc199 => ?_)
              · refine r_iload qL_act_229 rfl ?_
                refine r_bipush (v := nI 22) qL_act_231 (by decide) ?_
                refine r_icmp_ne (t := 267) qL_act_233 (by decide) (fun hc233 => ?_) (fun hc233 => ?_)
                · refine r_aload_n qL_act_267 rfl ?_
                  refine r_iconst (v := nI 1) qL_act_268 (by decide) ?_
                  refine r_cv1 (cu2 := 1) (su2 := 6) qL_act_269 kL_219 rfl (by decide +kernel) (c := 3) (by assumption) (by decide) rfl rfl rfl rfl rfl rfl ?_
                  refine a_pass hY hH hu hu6 hw hw6 hN (by decide) (by decide) (fun i1 a1 => ?_)
                  show zR E _ _ X 272 _ _ _ _ _ _ _
                  refine r_iret qL_act_272 rfl rfl rfl rfl ?_
                  exact hK1 _ _ i1 (pass_ne hO hB _) a1 ((walk_kp hO _).1.d hD) ((walk_kp hO _).2.2 hB)
                · refine r_aload_n qL_act_236 rfl ?_
                  refine r_iload qL_act_237 rfl ?_
                  refine r_cv1 (cu2 := 1) (su2 := 6) qL_act_239 kL_175 rfl (by decide +kernel) (c := 3) (by assumption) (by decide) rfl rfl rfl rfl rfl rfl ?_
                  refine q_pointCount hX hH htN ?_
                  show zR E _ _ X 242 _ _ _ _ _ _ _
                  refine r_if_ne (t := 251) qL_act_242 (by decide) (fun hc242 => ?_) (fun hc242 => ?_)
                  · refine r_aload_n qL_act_251 rfl ?_
                    refine r_iload qL_act_252 rfl ?_
                    refine r_iload qL_act_254 rfl ?_
                    refine r_aload_n qL_act_256 rfl ?_
                    refine r_iload qL_act_257 rfl ?_
                    refine r_cv1 (cu2 := 2) (su2 := 12) qL_act_259 kL_175 rfl (by decide +kernel) (c := 3) (by assumption) (by decide) rfl rfl rfl rfl rfl rfl ?_
                    refine q_pointCount hX hH htN ?_
                    show zR E _ _ X 262 _ _ _ _ _ _ _
                    have p0 : 0 < sMany N t := Nat.pos_of_ne_zero (fun h => hc242 (by rw [h]; decide))
                    have hmq : m % sMany N t < sMany N t := Nat.mod_lt _ p0
                    refine r_irem qL_act_262 hc242 ?_
                    rw [pk_rem (by omega) p0 (by omega)]
                    refine r_cv2 (cu2 := 4) (su2 := 24) qL_act_263 kL_246 rfl (by decide +kernel) (c := 3) (by assumption) (by decide) rfl rfl rfl rfl rfl rfl ?_
                    refine a_erasePoint hY hH hu hu6 hw hw6 hN htN hmq (fun i1 a1 => ?_)
                    show zR E _ _ X 266 _ _ _ _ _ _ _
                    refine r_iret qL_act_266 rfl rfl rfl rfl ?_
                    first | exact hK0 | exact hK1 _ _ i1 (in_ne ((hO.pts htN).1 _ hmq).2 (by decide)) a1 ((bKp_erase hm6 hmq).k.d hD) ((bKp_erase hm6 hmq).b hO hB)
                  · refine r_sipush (v := (-9999)) qL_act_245 (by decide) ?_
                    refine r_goto (t := 266) qL_act_248 (by decide) ?_
                    refine r_iret qL_act_266 rfl rfl rfl rfl ?_
                    first | exact hK0 | exact hK1 _ _ i1 (in_ne ((hO.pts htN).1 _ hmq).2 (by decide)) a1 ((bKp_erase hm6 hmq).k.d hD) ((bKp_erase hm6 hmq).b hO hB)
              · refine r_aload_n qL_act_202 rfl ?_
                refine r_iload qL_act_203 rfl ?_
                refine r_iload qL_act_205 rfl ?_
                refine r_iconst (v := nI 2) qL_act_207 (by decide) ?_
                refine r_irem qL_act_208 (by decide) ?_
                rw [pk_rem (by omega) (by decide) (by decide)]
                refine r_if_ne (t := 216) qL_act_209 (by decide) (fun hc209 => ?_) (fun hc209 => ?_)
                · refine r_iconst (v := nI 0) qL_act_216 (by decide) ?_
                  refine r_cv2 (cu2 := 1) (su2 := 6) qL_act_217 kL_242 rfl (by decide +kernel) (c := 3) (by assumption) (by decide) rfl rfl rfl rfl rfl rfl ?_
                  refine a_setLeaky hY hH hu hu6 hw hw6 hN htN (by first | exact Or.inl rfl | exact Or.inr rfl) (fun i1 a1 => ?_)
                  show zR E _ _ X 220 _ _ _ _ _ _ _
                  refine r_if_eq (t := 227) qL_act_220 (by decide) (fun hc220 => ?_) (fun hc220 => ?_)
                  · refine r_iconst (v := nI 0) qL_act_227 (by decide) ?_
                    refine r_iret qL_act_228 rfl rfl rfl rfl ?_
                    exact hK1 _ _ i1 (nI_m9 (by decide)) a1 (kq (by decide) (by decide)).1 (kq (by decide) (by decide)).2
                  · refine r_iconst (v := nI 1) qL_act_223 (by decide) ?_
                    refine r_goto (t := 228) qL_act_224 (by decide) ?_
                    refine r_iret qL_act_228 rfl rfl rfl rfl ?_
                    exact hK1 _ _ i1 (nI_m9 (by decide)) a1 (kq (by decide) (by decide)).1 (kq (by decide) (by decide)).2
                · refine r_iconst (v := nI 1) qL_act_212 (by decide) ?_
                  refine r_goto (t := 217) qL_act_213 (by decide) ?_
                  refine r_cv2 (cu2 := 1) (su2 := 6) qL_act_217 kL_242 rfl (by decide +kernel) (c := 3) (by assumption) (by decide) rfl rfl rfl rfl rfl rfl ?_
                  refine a_setLeaky hY hH hu hu6 hw hw6 hN htN (by first | exact Or.inl rfl | exact Or.inr rfl) (fun i1 a1 => ?_)
                  show zR E _ _ X 220 _ _ _ _ _ _ _
                  refine r_if_eq (t := 227) qL_act_220 (by decide) (fun hc220 => ?_) (fun hc220 => ?_)
                  · refine r_iconst (v := nI 0) qL_act_227 (by decide) ?_
                    refine r_iret qL_act_228 rfl rfl rfl rfl ?_
                    exact hK1 _ _ i1 (nI_m9 (by decide)) a1 (kq (by decide) (by decide)).1 (kq (by decide) (by decide)).2
                  · refine r_iconst (v := nI 1) qL_act_223 (by decide) ?_
                    refine r_goto (t := 228) qL_act_224 (by decide) ?_
                    refine r_iret qL_act_228 rfl rfl rfl rfl ?_
                    exact hK1 _ _ i1 (nI_m9 (by decide)) a1 (kq (by decide) (by decide)).1 (kq (by decide) (by decide)).2
            · refine r_aload_n qL_act_180 rfl ?_
              refine r_iload qL_act_181 rfl ?_
              refine r_iconst (v := nI 1) qL_act_183 (by decide) ?_
              refine r_iload qL_act_184 rfl ?_
              refine r_sipush (v := nI 300) qL_act_186 (by decide) ?_
              refine r_irem qL_act_189 (by decide) ?_
              rw [pk_rem (by omega) (by decide) (by decide)]
              first | with_reducible refine r_iaddN qL_act_190 ?_ | refine r_iadd qL_act_190 ?_
              refine r_csH3 (cu2 := 3) (su2 := 18) qL_act_191 kL_239 rfl (by decide +kernel) rfl rfl rfl rfl rfl ?_
              refine c_L_topped hY hH hu hu6 hw hw6 hN htN (by omega) (by omega) ?_ (fun h i1 a1 => ?_)
              · show zR E _ _ X 194 _ _ _ _ _ _ _
                exact r_iret qL_act_194 rfl rfl rfl rfl hK0
              show zR E _ _ X 194 _ _ _ _ _ _ _
              refine r_iret qL_act_194 rfl rfl rfl rfl ?_
              exact hK1 _ _ i1 (in_ne (pour_in t4 (by omega) h) (by decide)) a1 (dKp_pour.d hD) (jB_pour hO htN hB)
          · refine r_aload_n qL_act_159 rfl ?_
            refine r_iload qL_act_160 rfl ?_
            refine r_iconst (v := nI 1) qL_act_162 (by decide) ?_
            refine r_iload qL_act_163 rfl ?_
            refine r_bipush (v := nI 20) qL_act_165 (by decide) ?_
            refine r_irem qL_act_167 (by decide) ?_
            rw [pk_rem (by omega) (by decide) (by decide)]
            first | with_reducible refine r_iaddN qL_act_168 ?_ | refine r_iadd qL_act_168 ?_
            refine r_cv2 (cu2 := 2) (su2 := 12) qL_act_169 kL_236 rfl (by decide +kernel) (c := 3) (by assumption) (by decide) rfl rfl rfl rfl rfl rfl ?_
            refine a_layThumb hY hH hu hu6 hw hw6 hN htN (by omega) (by omega) (fun i1 a1 => ?_)
            show zR E _ _ X 172 _ _ _ _ _ _ _
            refine r_iret qL_act_172 rfl rfl rfl rfl ?_
            have b1 := (bKp_upd (N := N) (w := 6) (v := nI t) (Or.inr (Or.inl rfl))).trans (bKp_upd (w := 7) (v := nI (1 + m % 20)) (Or.inr (Or.inr (Or.inl rfl))))
            exact hK1 _ _ i1 n6 a1 (b1.k.d hD) (b1.b hO hB)
        · refine r_aload_n qL_act_145 rfl ?_
          refine r_iload qL_act_146 rfl ?_
          refine r_csH2 (cu2 := 2) (su2 := 12) qL_act_148 kL_233 rfl (by decide +kernel) rfl rfl rfl rfl rfl ?_
          refine c_L_lifted hY hH hu hu6 hw hw6 hN htN ?_ (fun h i1 a1 => ?_)
          · show zR E _ _ X 151 _ _ _ _ _ _ _
            exact r_iret qL_act_151 rfl rfl rfl rfl hK0
          show zR E _ _ X 151 _ _ _ _ _ _ _
          refine r_iret qL_act_151 rfl rfl rfl rfl ?_
          obtain ⟨b, hb, hbB⟩ := (hD.bath hO htN).resolve_left h
          exact hK1 _ _ i1 (by rw [hb]; exact nI_m9 (by omega)) a1 (kq (by decide) (by decide)).1 (kq (by decide) (by decide)).2
      · refine r_aload_n qL_act_131 rfl ?_
        refine r_iload qL_act_132 rfl ?_
        refine r_csH2 (cu2 := 2) (su2 := 12) qL_act_134 kL_229 rfl (by decide +kernel) rfl rfl rfl rfl rfl ?_
        refine c_L_marked hY hH hu hu6 hw hw6 hN htN ?_ (fun h i1 a1 => ?_)
        · show zR E _ _ X 137 _ _ _ _ _ _ _
          exact r_iret qL_act_137 rfl rfl rfl rfl hK0
        show zR E _ _ X 137 _ _ _ _ _ _ _
        refine r_iret qL_act_137 rfl rfl rfl rfl ?_
        have hm5 : sMany N t < 6 := by have := mark_6 h; omega
        exact hK1 _ _ i1 (nI_m9 (by omega)) a1 ((bKp_put hm5).k.d hD) ((bKp_put hm5).b hO hB)
    · refine r_aload_n qL_act_97 rfl ?_
      refine r_cs1 (cu2 := 0) (su2 := 0) qL_act_98 kL_93 rfl (by decide +kernel) rfl rfl rfl rfl rfl ?_
      refine c_L_baths ?_
      show zR E _ _ X 101 _ _ _ _ _ _ _
      refine r_if_ne (t := 110) qL_act_101 (by decide) (fun hc101 => ?_) (fun hc101 => ?_)
      · refine r_aload_n qL_act_110 rfl ?_
        refine r_iload qL_act_111 rfl ?_
        refine r_iload qL_act_113 rfl ?_
        refine r_aload_n qL_act_115 rfl ?_
        refine r_cs1 (cu2 := 0) (su2 := 0) qL_act_116 kL_93 rfl (by decide +kernel) rfl rfl rfl rfl rfl ?_
        refine c_L_baths ?_
        show zR E _ _ X 119 _ _ _ _ _ _ _
        have p0 : 0 < vB E := Nat.pos_of_ne_zero (fun h => hc101 (by rw [h]; decide))
        have hmb : m % vB E < vB E := Nat.mod_lt _ p0
        refine r_irem qL_act_119 hc101 ?_
        rw [pk_rem (by omega) p0 (by omega)]
        refine r_csH3 (cu2 := 3) (su2 := 18) qL_act_120 kL_225 rfl (by decide +kernel) rfl rfl rfl rfl rfl ?_
        refine c_L_dipped hY hH hu hu6 hw hw6 hN htN (show m % vB E < zn (N 4) by omega) ?_ (fun h i1 a1 => ?_)
        · show zR E _ _ X 123 _ _ _ _ _ _ _
          exact r_iret qL_act_123 rfl rfl rfl rfl hK0
        show zR E _ _ X 123 _ _ _ _ _ _ _
        refine r_iret qL_act_123 rfl rfl rfl rfl ?_
        first | exact hK0 | exact hK1 _ _ i1 (in_ne (sAround_in (zOk_bath hO htN (Or.inr ⟨_, rfl, show m % vB E < zn (N 4) by omega⟩)) (by rw [pk_un (by omega)]; exact htN)) (by decide)) a1 (kq (by decide) (by decide)).1 (kq (by decide) (by decide)).2
      · refine r_sipush (v := (-9999)) qL_act_104 (by decide) ?_
        refine r_goto (t := 123) qL_act_107 (by decide) ?_
        refine r_iret qL_act_123 rfl rfl rfl rfl ?_
        first | exact hK0 | exact hK1 _ _ i1 (in_ne (sAround_in (zOk_bath hO htN (Or.inr ⟨_, rfl, show m % vB E < zn (N 4) by omega⟩)) (by rw [pk_un (by omega)]; exact htN)) (by decide)) a1 (kq (by decide) (by decide)).1 (kq (by decide) (by decide)).2
  refine r_aload_n qL_act_0 rfl ?_
  refine r_iload_n qL_act_1 rfl ?_
  refine r_iconst (v := nI 1) qL_act_2 (by decide) ?_
  first | with_reducible refine r_iaddN qL_act_3 ?_ | refine r_iadd qL_act_3 ?_
  refine r_ldci qL_act_4 lL_218 ?_
  rw [c5]
  refine r_cs3 (cu2 := 0) (su2 := 0) qL_act_6 kL_40 rfl (by decide +kernel) rfl rfl rfl rfl rfl ?_
  refine c_L_draw (by omega) (by decide) (by decide) ?_
  rw [hn]
  show zR E _ _ X 9 _ _ _ _ _ _ _
  refine r_is_7_3 qL_act_9 rfl rfl ?_
  refine r_aload_n qL_act_10 rfl ?_
  refine r_iload_n qL_act_11 rfl ?_
  refine r_iconst (v := nI 2) qL_act_12 (by decide) ?_
  first | with_reducible refine r_iaddN qL_act_13 ?_ | refine r_iadd qL_act_13 ?_
  refine r_ldci qL_act_14 lL_218 ?_
  rw [c5]
  refine r_cs3 (cu2 := 0) (su2 := 0) qL_act_16 kL_40 rfl (by decide +kernel) rfl rfl rfl rfl rfl ?_
  refine c_L_draw (by omega) (by decide) (by decide) ?_
  rw [hm]
  show zR E _ _ X 19 _ _ _ _ _ _ _
  refine r_is_7_4 qL_act_19 rfl rfl ?_
  refine r_aload_n qL_act_21 rfl ?_
  refine r_iload_n qL_act_22 rfl ?_
  refine r_bipush (v := nI 24) qL_act_23 (by decide) ?_
  refine r_cs3 (cu2 := 0) (su2 := 0) qL_act_25 kL_40 rfl (by decide +kernel) rfl rfl rfl rfl rfl ?_
  refine c_L_draw (by omega) (by decide) (by decide) ?_
  show zR E _ _ X 28 _ _ _ _ _ _ _
  refine r_is_7_5 qL_act_28 rfl rfl ?_
  refine r_iload qL_act_30 rfl ?_
  refine r_bipush (v := nI 7) qL_act_32 (by decide) ?_
  refine r_icmp_ge (t := 48) qL_act_34 (by decide) (fun hc34 => ?_) (fun hc34 => ?_)
  · refine r_iload qL_act_48 rfl ?_
    refine r_bipush (v := nI 7) qL_act_50 (by decide) ?_
    refine r_icmp_ne (t := 71) qL_act_52 (by decide) (fun hc52 => ?_) (fun hc52 => ?_)
    · refine r_aload_n qL_act_71 rfl ?_
      refine r_cs1 (cu2 := 0) (su2 := 0) qL_act_72 kL_106 rfl (by decide +kernel) rfl rfl rfl rfl rfl ?_
      refine c_L_tubes ?_
      show zR E _ _ X 75 _ _ _ _ _ _ _
      refine r_if_ne (t := 82) qL_act_75 (by decide) (fun hc75 => ?_) (fun hc75 => ?_)
      · refine r_iload_n qL_act_82 rfl ?_
        refine r_aload_n qL_act_83 rfl ?_
        refine r_cs1 (cu2 := 0) (su2 := 0) qL_act_84 kL_106 rfl (by decide +kernel) rfl rfl rfl rfl rfl ?_
        refine c_L_tubes ?_
        show zR E _ _ X 87 _ _ _ _ _ _ _
        refine r_irem qL_act_87 hc75 ?_
        rw [pk_rem (by omega) (show 0 < vT E from Nat.pos_of_ne_zero (fun h => hc75 (by rw [h]; decide))) (by omega)]
        refine r_is_7_6 qL_act_88 rfl rfl ?_
        exact K90 (fun h => hc75 (by rw [h]; decide))
      · refine r_sipush (v := (-9999)) qL_act_78 (by decide) ?_
        refine r_iret qL_act_81 rfl rfl rfl rfl ?_
        exact hK0
    · refine r_aload_n qL_act_55 rfl ?_
      refine r_iload_n qL_act_56 rfl ?_
      refine r_sipush (v := nI 171) qL_act_57 (by decide) ?_
      refine r_irem qL_act_60 (by decide) ?_
      rw [pk_rem (by omega) (by decide) (by decide)]
      refine r_bipush (v := nI 20) qL_act_61 (by decide) ?_
      refine r_isub qL_act_63 ?_
      refine r_cv1 (cu2 := 1) (su2 := 6) qL_act_64 kL_222 rfl (by decide +kernel) (c := 3) (by assumption) (by decide) rfl rfl rfl rfl rfl rfl ?_
      refine a_setRoom hY hH hu hu6 hw hw6 hN room_in (fun i1 a1 => ?_)
      show zR E _ _ X 67 _ _ _ _ _ _ _
      refine r_bipush (v := nI 100) qL_act_67 (by decide) ?_
      first | with_reducible refine r_iaddN qL_act_69 ?_ | refine r_iadd qL_act_69 ?_
      refine r_iret qL_act_70 rfl rfl rfl rfl ?_
      exact hK1 _ _ i1 (in_ne r100 (by decide)) a1 (kp (Or.inl (by decide))).1 (kp (Or.inl (by decide))).2
  · refine r_aload_n qL_act_37 rfl ?_
    refine r_iconst (v := nI 1) qL_act_38 (by decide) ?_
    refine r_iload_n qL_act_39 rfl ?_
    refine r_bipush (v := nI 90) qL_act_40 (by decide) ?_
    refine r_irem qL_act_42 (by decide) ?_
    rw [pk_rem (by omega) (by decide) (by decide)]
    first | with_reducible refine r_iaddN qL_act_43 ?_ | refine r_iadd qL_act_43 ?_
    refine r_cv1 (cu2 := 1) (su2 := 6) qL_act_44 kL_219 rfl (by decide +kernel) (c := 3) (by assumption) (by decide) rfl rfl rfl rfl rfl rfl ?_
    refine a_pass hY hH hu hu6 hw hw6 hN (by omega) (by omega) (fun i1 a1 => ?_)
    show zR E _ _ X 47 _ _ _ _ _ _ _
    refine r_iret qL_act_47 rfl rfl rfl rfl ?_
    exact hK1 _ _ i1 (pass_ne hO hB _) a1 ((walk_kp hO _).1.d hD) ((walk_kp hO _).2.2 hB)

