/-! ===== P67: QUESTIONS THAT ARE ALLOWED ===== -/
theorem rd_mk {N : Nat → Int32} {k : Nat} (hk : k < zn (N 5)) (h : k < 2 ^ 31) (h2 : 2 ≤ sMany N k) : rd N (nI k) := ⟨tv_mk hk h, by rw [zn_nI h]; exact h2⟩
theorem pv_mk {N : Nat → Int32} {k p : Nat} (hk : k < zn (N 5)) (h : k < 2 ^ 31) (hp : p < sMany N k) (h2 : p < 2 ^ 31) : pv N (nI k) (nI p) := ⟨tv_mk hk h, tv_mk (by rw [zn_nI h]; exact hp) h2⟩
section
variable {E : Ev} {g : Sh} {i : Ni} {j : Nj} {K : Kp} {c k : Nat} {a : Nat → Nat} {N : Nat → Int32}
theorem q_spiritOf (hX : zX3 g c a) (hH : zH i a N) (hk : k < zn (N 5)) (hK : K (.inl (some (.int (N (42 + 21 * k + 0))))) g i j) : zCon E mX3_spiritOf [.ref c, .int (nI k)] g i j K := by
  have h8 := hH.1.k8 hk
  refine c_X3_spiritOf hX hH ?_
  rw [oc3_v (tv_mk hk (by omega)) trivial trivial, zn_nI (by omega)]
  exact hK
theorem q_fillOf (hX : zX3 g c a) (hH : zH i a N) (hk : k < zn (N 5)) (hK : K (.inl (some (.int (N (42 + 21 * k + 4))))) g i j) : zCon E mX3_fillOf [.ref c, .int (nI k)] g i j K := by
  have h8 := hH.1.k8 hk
  refine c_X3_fillOf hX hH ?_
  rw [oc3_v (tv_mk hk (by omega)) trivial trivial, zn_nI (by omega)]
  exact hK
theorem q_temperatureOf (hX : zX3 g c a) (hH : zH i a N) (hk : k < zn (N 5)) (hK : K (.inl (some (.int (N (42 + 21 * k + 5))))) g i j) : zCon E mX3_temperatureOf [.ref c, .int (nI k)] g i j K := by
  have h8 := hH.1.k8 hk
  refine c_X3_temperatureOf hX hH ?_
  rw [oc3_v (tv_mk hk (by omega)) trivial trivial, zn_nI (by omega)]
  exact hK
theorem q_bathOf (hX : zX3 g c a) (hH : zH i a N) (hk : k < zn (N 5)) (hK : K (.inl (some (.int (N (42 + 21 * k + 7))))) g i j) : zCon E mX3_bathOf [.ref c, .int (nI k)] g i j K := by
  have h8 := hH.1.k8 hk
  refine c_X3_bathOf hX hH ?_
  rw [oc3_v (tv_mk hk (by omega)) trivial trivial, zn_nI (by omega)]
  exact hK
theorem q_pointCount (hX : zX3 g c a) (hH : zH i a N) (hk : k < zn (N 5)) (hK : K (.inl (some (.int (nI (sMany N k))))) g i j) : zCon E mX3_pointCount [.ref c, .int (nI k)] g i j K := by
  have h8 := hH.1.k8 hk
  refine c_X3_pointCount hX hH ?_
  rw [oc3_v (tv_mk hk (by omega)) trivial trivial, zn_nI (by omega)]
  rw [(hH.1.many hk).1]
  exact hK
theorem q_isLeaky (hX : zX3 g c a) (hH : zH i a N) (hk : k < zn (N 5)) (hK : K (.inl (some (.int (zb (N (42 + 21 * k + 6) = nI 1))))) g i j) : zCon E mX3_isLeaky [.ref c, .int (nI k)] g i j K := by
  have h8 := hH.1.k8 hk
  refine c_X3_isLeaky hX hH ?_
  rw [oc3_v (tv_mk hk (by omega)) trivial trivial, zn_nI (by omega)]
  exact hK
theorem q_surroundingsOf (hX : zX3 g c a) (hH : zH i a N) (hk : k < zn (N 5)) (hK : K (.inl (some (.int (sAround N k)))) g i j) : zCon E mX3_surroundingsOf [.ref c, .int (nI k)] g i j K := by
  have h8 := hH.1.k8 hk
  refine c_X3_surroundingsOf hX hH ?_
  rw [oc3_v (tv_mk hk (by omega)) trivial trivial, zn_nI (by omega)]
  exact hK
theorem q_isSettled (hX : zX3 g c a) (hH : zH i a N) (hk : k < zn (N 5)) (hK : K (.inl (some (.int (zb (N (42 + 21 * k + 5) = sAround N k))))) g i j) : zCon E mX3_isSettled [.ref c, .int (nI k)] g i j K := by
  have h8 := hH.1.k8 hk
  refine c_X3_isSettled hX hH ?_
  rw [oc3_v (tv_mk hk (by omega)) trivial trivial, zn_nI (by omega)]
  exact hK
theorem q_markRefusal (hX : zX3 g c a) (hH : zH i a N) (hk : k < zn (N 5)) (hK : K (.inl (some (.int (sMark N k)))) g i j) : zCon E mX3_markRefusal [.ref c, .int (nI k)] g i j K := by
  have h8 := hH.1.k8 hk
  refine c_X3_markRefusal hX hH ?_
  rw [oc3_v (tv_mk hk (by omega)) trivial trivial, zn_nI (by omega)]
  exact hK
theorem q_height (hX : zX3 g c a) (hH : zH i a N) (hk : k < zn (N 5)) (hK : K (.inl (some (.int (sHigh N k)))) g i j) : zCon E mX3_height [.ref c, .int (nI k)] g i j K := by
  have h8 := hH.1.k8 hk
  refine c_X3_height hX hH ?_
  rw [oc3_v (tv_mk hk (by omega)) trivial trivial, zn_nI (by omega)]
  exact hK
theorem q_hasScale (hX : zX3 g c a) (hH : zH i a N) (hk : k < zn (N 5)) (hK : K (.inl (some (.int (zb (2 ≤ sMany N k))))) g i j) : zCon E mX3_hasScale [.ref c, .int (nI k)] g i j K := by
  have h8 := hH.1.k8 hk
  refine c_X3_hasScale hX hH ?_
  rw [oc3_v (tv_mk hk (by omega)) trivial trivial, zn_nI (by omega)]
  exact hK
theorem q_sensitivity (hX : zX3 g c a) (hH : zH i a N) (hk : k < zn (N 5)) (hK : K (.inl (some (.int (sFree N k (N (42 + 21 * k + 5) + nI 10) - sFree N k (N (42 + 21 * k + 5)))))) g i j) : zCon E mX3_sensitivity [.ref c, .int (nI k)] g i j K := by
  have h8 := hH.1.k8 hk
  refine c_X3_sensitivity hX hH ?_
  rw [oc3_v (tv_mk hk (by omega)) trivial trivial, zn_nI (by omega)]
  exact hK
theorem q_greatestTemperature (hX : zX3 g c a) (hH : zH i a N) (hk : k < zn (N 5)) (hK : K (.inl (some (.int (sGreat N k 1701)))) g i j) : zCon E mX3_greatestTemperature [.ref c, .int (nI k)] g i j K := by
  have h8 := hH.1.k8 hk
  refine c_X3_greatestTemperature hX hH ?_
  rw [oc3_v (tv_mk hk (by omega)) trivial trivial, zn_nI (by omega)]
  exact hK
theorem q_bathsToMark (hX : zX3 g c a) (hH : zH i a N) (hk : k < zn (N 5)) (hK : K (.inl (some (.int (sNew N k (zn (N 4)))))) g i j) : zCon E mX3_bathsToMark [.ref c, .int (nI k)] g i j K := by
  have h8 := hH.1.k8 hk
  refine c_X3_bathsToMark hX hH ?_
  rw [oc3_v (tv_mk hk (by omega)) trivial trivial, zn_nI (by omega)]
  exact hK
theorem q_reading (hX : zX3 g c a) (hH : zH i a N) (hk : k < zn (N 5)) (h2 : 2 ≤ sMany N k) (hK : K (.inl (some (.int (sRead N k)))) g i j) : zCon E mX3_reading [.ref c, .int (nI k)] g i j K := by
  have h8 := hH.1.k8 hk
  refine c_X3_reading hX hH ?_
  rw [oc3_v (tv_mk hk (by omega)) (rd_mk hk (by omega) h2) trivial, zn_nI (by omega)]
  exact hK
theorem q_readingError (hX : zX3 g c a) (hH : zH i a N) (hk : k < zn (N 5)) (h2 : 2 ≤ sMany N k) (hK : K (.inl (some (.int (sRead N k - N (42 + 21 * k + 5))))) g i j) : zCon E mX3_readingError [.ref c, .int (nI k)] g i j K := by
  have h8 := hH.1.k8 hk
  refine c_X3_readingError hX hH ?_
  rw [oc3_v (tv_mk hk (by omega)) (rd_mk hk (by omega) h2) trivial, zn_nI (by omega)]
  exact hK
theorem q_fitError (hX : zX3 g c a) (hH : zH i a N) (hk : k < zn (N 5)) (h2 : 2 ≤ sMany N k) (hK : K (.inl (some (.int (sFit N k (sMany N k))))) g i j) : zCon E mX3_fitError [.ref c, .int (nI k)] g i j K := by
  have h8 := hH.1.k8 hk
  refine c_X3_fitError hX hH ?_
  rw [oc3_v (tv_mk hk (by omega)) (rd_mk hk (by omega) h2) trivial, zn_nI (by omega)]
  exact hK
theorem q_scaleAt {h : Int32} (hX : zX3 g c a) (hH : zH i a N) (hk : k < zn (N 5)) (h2 : 2 ≤ sMany N k) (hh : 0 ≤ h.toInt ∧ h.toInt ≤ 999) (hK : K (.inl (some (.int (sTells N k h)))) g i j) : zCon E mX3_scaleAt [.ref c, .int (nI k), .int h] g i j K := by
  have h8 := hH.1.k8 hk
  refine c_X3_scaleAt hX hH ?_
  rw [oc3_v (tv_mk hk (by omega)) hh (rd_mk hk (by omega) h2), zn_nI (by omega)]
  exact hK
theorem q_freeHeightAt {h : Int32} (hX : zX3 g c a) (hH : zH i a N) (hk : k < zn (N 5)) (hh : -200 ≤ h.toInt ∧ h.toInt ≤ 1500) (hK : K (.inl (some (.int (sFree N k h)))) g i j) : zCon E mX3_freeHeightAt [.ref c, .int (nI k), .int h] g i j K := by
  have h8 := hH.1.k8 hk
  refine c_X3_freeHeightAt hX hH ?_
  rw [oc3_v (tv_mk hk (by omega)) hh trivial, zn_nI (by omega)]
  exact hK
theorem q_pointDegrees {p : Nat} (hX : zX3 g c a) (hH : zH i a N) (hk : k < zn (N 5)) (hp : p < sMany N k) (hK : K (.inl (some (.int (sDeg N k p)))) g i j) : zCon E mX3_pointDegrees [.ref c, .int (nI k), .int (nI p)] g i j K := by
  have h8 := hH.1.k8 hk
  have h6 := (hH.1.many hk).2
  refine c_X3_pointDegrees hX hH ?_
  rw [oc3_v (tv_mk hk (by omega)) (pv_mk hk (by omega) hp (by omega)) trivial, zn_nI (by omega), zn_nI (by omega)]
  exact hK
theorem q_pointHeight {p : Nat} (hX : zX3 g c a) (hH : zH i a N) (hk : k < zn (N 5)) (hp : p < sMany N k) (hK : K (.inl (some (.int (sHgt N k p)))) g i j) : zCon E mX3_pointHeight [.ref c, .int (nI k), .int (nI p)] g i j K := by
  have h8 := hH.1.k8 hk
  have h6 := (hH.1.many hk).2
  refine c_X3_pointHeight hX hH ?_
  rw [oc3_v (tv_mk hk (by omega)) (pv_mk hk (by omega) hp (by omega)) trivial, zn_nI (by omega), zn_nI (by omega)]
  exact hK
theorem q_dipRefusal {b : Nat} (hX : zX3 g c a) (hH : zH i a N) (hk : k < zn (N 5)) (hb : b < zn (N 4)) (hK : K (.inl (some (.int (sDip N k (nI b))))) g i j) : zCon E mX3_dipRefusal [.ref c, .int (nI k), .int (nI b)] g i j K := by
  have h8 := hH.1.k8 hk
  have h4 := hH.1.B4.2
  refine c_X3_dipRefusal hX hH ?_
  rw [oc3_v ⟨tv_mk hk (by omega), tv_mk hb (by omega)⟩ trivial trivial, zn_nI (by omega)]
  exact hK
theorem q_disagreement {b : Nat} (hX : zX3 g c a) (hH : zH i a N) (hk : k < zn (N 5)) (hb : b < zn (N 5)) (h2 : 2 ≤ sMany N k) (h3 : 2 ≤ sMany N b) (hK : K (.inl (some (.int (jabs (sRead N k - sRead N b))))) g i j) : zCon E mX3_disagreement [.ref c, .int (nI k), .int (nI b)] g i j K := by
  have h8 := hH.1.k8 hk
  have h9 := hH.1.k8 hb
  refine c_X3_disagreement hX hH ?_
  rw [oc3_v ⟨tv_mk hk (by omega), tv_mk hb (by omega)⟩ ⟨rd_mk hk (by omega) h2, rd_mk hb (by omega) h3⟩ trivial, zn_nI (by omega), zn_nI (by omega)]
  exact hK
theorem q_bathDegrees (hX : zX3 g c a) (hH : zH i a N) (hk : k < zn (N 4)) (hK : K (.inl (some (.int (N (30 + 3 * k + 2))))) g i j) : zCon E mX3_bathDegrees [.ref c, .int (nI k)] g i j K := by
  have h4 := hH.1.B4.2
  have h5 := hH.1.S5.2
  refine c_X3_bathDegrees hX hH ?_
  rw [oc3_v (tv_mk hk (by omega)) trivial trivial, zn_nI (by omega)]
  exact hK
theorem q_tubesIn (hX : zX3 g c a) (hH : zH i a N) (hk : k < zn (N 4)) (hK : K (.inl (some (.int (sIn N (nI k) (zn (N 5)))))) g i j) : zCon E mX3_tubesIn [.ref c, .int (nI k)] g i j K := by
  have h4 := hH.1.B4.2
  have h5 := hH.1.S5.2
  refine c_X3_tubesIn hX hH ?_
  rw [oc3_v (tv_mk hk (by omega)) trivial trivial]
  exact hK
theorem q_spiritInTubes (hX : zX3 g c a) (hH : zH i a N) (hk : k < zn (N 3)) (hK : K (.inl (some (.int (sHold N (nI k) (zn (N 5)))))) g i j) : zCon E mX3_spiritInTubes [.ref c, .int (nI k)] g i j K := by
  have h4 := hH.1.B4.2
  have h5 := hH.1.S5.2
  refine c_X3_spiritInTubes hX hH ?_
  rw [oc3_v (tv_mk hk (by omega)) trivial trivial]
  exact hK
theorem q_spiritLost (hX : zX3 g c a) (hH : zH i a N) (hk : k < zn (N 3)) (hK : K (.inl (some (.int (N (10 + 4 * k + 3))))) g i j) : zCon E mX3_spiritLost [.ref c, .int (nI k)] g i j K := by
  have h4 := hH.1.B4.2
  have h5 := hH.1.S5.2
  refine c_X3_spiritLost hX hH ?_
  rw [oc3_v (tv_mk hk (by omega)) trivial trivial, zn_nI (by omega)]
  exact hK
end

