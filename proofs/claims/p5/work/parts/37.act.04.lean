theorem ws_eq {N : Int64} {q : Int32} (h : TV N) (hp : 0 ≤ q.toInt ∧ q.toInt ≤ 59) : (((N / ((1000000000 : Int64) * (60 : Int64))) * ((1000000000 : Int64) * (60 : Int64))) + (q.toInt64 * (1000000000 : Int64))) + (N - N / (1000000000 : Int64) * (1000000000 : Int64)) = N + (((q - (fX0_secondOf N)).toInt64) * (1000000000 : Int64)) ∧ TV (N + (((q - (fX0_secondOf N)).toInt64) * (1000000000 : Int64))) := by
  have hh := second_int h
  unfold TV at h
  have lm : ((1000000000 : Int64) * (60 : Int64)).toInt = 60000000000 := by decide
  have e1 := aL (aL (mL (dL (x := N) rfl lm h.1 (by decide)) lm (by omega)) (mL (oL (x := q) rfl) l1e9 (by omega)) (by omega)) (rL (x := N) rfl l1e9 h.1 (by decide)) (by omega)
  have e2 := aL (x := N) rfl (mL (oL (sI (x := q) rfl hh (by omega))) l1e9 (by omega)) (by omega)
  refine ⟨eqL e1 (e2.trans (by omega)), ?_⟩
  unfold TV
  rw [e2]
  omega
theorem wn_eq {N : Int64} {q : Int32} (h : TV N) (hp : 0 ≤ q.toInt ∧ q.toInt ≤ 999999999) : (((N / ((1 : Int64) * (1000000000 : Int64))) * ((1 : Int64) * (1000000000 : Int64))) + (q.toInt64 * (1 : Int64))) + (N - N / (1 : Int64) * (1 : Int64)) = (N + q.toInt64) - ((fX0_nanoOfSecond N).toInt64) ∧ TV ((N + q.toInt64) - ((fX0_nanoOfSecond N).toInt64)) := by
  have hh := nano_int h
  unfold TV at h
  have l1 : (1 : Int64).toInt = 1 := by decide
  have lm : ((1 : Int64) * (1000000000 : Int64)).toInt = 1000000000 := by decide
  have e1 := aL (aL (mL (dL (x := N) rfl lm h.1 (by decide)) lm (by omega)) (mL (oL (x := q) rfl) l1 (by omega)) (by omega)) (rL (x := N) rfl l1 h.1 (by decide)) (by omega)
  have e2 := sL (aL (x := N) rfl (oL (x := q) rfl) (by omega)) (oL hh) (by omega)
  refine ⟨eqL e1 (e2.trans (by omega)), ?_⟩
  unfold TV
  rw [e2]
  omega
theorem cut_int {N : Int64} {u : Int32} {Q : Int} (h : TV N) (u1 : (fX0_nanosOfUnit u).toInt = Q) (u3 : 0 < Q) : (fX0_cutNano N u).toInt = N.toInt / Q * Q ∧ 0 ≤ N.toInt / Q * Q ∧ N.toInt / Q * Q ≤ N.toInt := by
  unfold TV at h
  have b0 : 0 ≤ N.toInt / Q * Q := Int.mul_nonneg (Int.ediv_nonneg h.1 (Int.le_of_lt u3)) (Int.le_of_lt u3)
  have b1 : N.toInt / Q * Q ≤ N.toInt := Int.ediv_mul_le _ (Int.ne_of_gt u3)
  refine ⟨?_, b0, b1⟩
  unfold fX0_cutNano
  rw [quo u1 u3]
  exact mL (dL (x := N) rfl u1 h.1 u3) u1 (by omega)
theorem trunc_eq {N : Int64} {u : Int32} (h : TV N) (hu : 0 ≤ u.toInt ∧ u.toInt ≤ 7) : N - (N - N / fX2_nanosOf u * fX2_nanosOf u) = fX0_cutNano N u ∧ TV (fX0_cutNano N u) := by
  obtain ⟨Q, P, u1, u2, u3, u4, u5⟩ := un8 hu
  obtain ⟨c1, c2, c3⟩ := cut_int h u1 u3
  have m1 := Int.emod_add_mul_ediv N.toInt Q
  have m4 : N.toInt / Q * Q = Q * (N.toInt / Q) := Int.mul_comm _ _
  have m2 := Int.emod_nonneg N.toInt (Int.ne_of_gt u3)
  unfold TV at h ⊢
  rw [u2]
  refine ⟨eqL (sL (x := N) rfl (rL (x := N) rfl u1 h.1 u3) (by omega)) (c1.trans (by omega)), ?_⟩
  rw [c1]
  omega
/-! hands, order, gaps -/
theorem l0I : (0 : Int32).toInt = 0 := by decide
theorem timeOf_int {h m s n : Int32} (a1 : 0 ≤ h.toInt ∧ h.toInt ≤ 23) (a2 : 0 ≤ m.toInt ∧ m.toInt ≤ 59) (a3 : 0 ≤ s.toInt ∧ s.toInt ≤ 59) (a4 : 0 ≤ n.toInt ∧ n.toInt ≤ 999999999) : (fX0_timeOf h m s n).toInt = h.toInt * 3600000000000 + m.toInt * 60000000000 + s.toInt * 1000000000 + n.toInt :=
  aL (aL (aL (mL (oL (x := h) rfl) l3600 (by omega)) (mL (oL (x := m) rfl) l60 (by omega)) (by omega)) (mL (oL (x := s) rfl) l1e9 (by omega)) (by omega)) (oL (x := n) rfl) (by omega)
theorem timeOf_TV {h m s n : Int32} (a1 : 0 ≤ h.toInt ∧ h.toInt ≤ 23) (a2 : 0 ≤ m.toInt ∧ m.toInt ≤ 59) (a3 : 0 ≤ s.toInt ∧ s.toInt ≤ 59) (a4 : 0 ≤ n.toInt ∧ n.toInt ≤ 999999999) : TV (fX0_timeOf h m s n) := by
  unfold TV
  rw [timeOf_int a1 a2 a3 a4]
  omega
