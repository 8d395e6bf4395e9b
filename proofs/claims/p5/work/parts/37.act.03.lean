theorem part_int {N p q : Int64} {P Q : Int} (h : TV N) (hp : p.toInt = P) (hq : q.toInt = Q) (h1 : 0 < P) (h2 : 0 < Q) (h3 : Q ≤ 2000000000) : (((N / p) - (N / p) / q * q).toInt32).toInt = N.toInt / P % Q := by
  unfold TV at h
  have z : 0 ≤ N.toInt / P := Int.ediv_nonneg h.1 (Int.le_of_lt h1)
  have z1 := Int.emod_nonneg (N.toInt / P) (Int.ne_of_gt h2)
  have z2 := Int.emod_lt_of_pos (N.toInt / P) h2
  exact oI (rL (dL (x := N) rfl hp h.1 h1) hq z h2) (by omega)
theorem hour_eq {N : Int64} (h : TV N) : (((N / (3600000000000 : Int64)) - (N / (3600000000000 : Int64)) / (24 : Int64) * (24 : Int64)).toInt32) = fX0_hourOf N := by
  refine eqI (part_int h l3600 (show (24 : Int64).toInt = 24 from by decide) (by decide) (by decide) (by decide)) ?_
  rw [hour_int h]
  unfold TV at h
  omega
theorem minute_eq {N : Int64} (h : TV N) : (((N / (60000000000 : Int64)) - (N / (60000000000 : Int64)) / (60 : Int64) * (60 : Int64)).toInt32) = fX0_minuteOf N := by
  refine eqI (part_int h l60 (show (60 : Int64).toInt = 60 from by decide) (by decide) (by decide) (by decide)) ?_
  rw [minute_int h]
  omega
theorem second_eq {N : Int64} (h : TV N) : (((N / (1000000000 : Int64)) - (N / (1000000000 : Int64)) / (60 : Int64) * (60 : Int64)).toInt32) = fX0_secondOf N := by
  refine eqI (part_int h l1e9 (show (60 : Int64).toInt = 60 from by decide) (by decide) (by decide) (by decide)) ?_
  rw [second_int h]
  omega
theorem nano_eq {N : Int64} (h : TV N) : (((N / (1 : Int64)) - (N / (1 : Int64)) / (1000000000 : Int64) * (1000000000 : Int64)).toInt32) = fX0_nanoOfSecond N := by
  refine eqI (part_int h (show (1 : Int64).toInt = 1 from by decide) l1e9 (by decide) (by decide) (by decide)) ?_
  rw [nano_int h, Int.ediv_one]
theorem sod_eq {N : Int64} (h : TV N) : (((N / (1000000000 : Int64)) - (N / (1000000000 : Int64)) / (86400 : Int64) * (86400 : Int64)).toInt32) = (N / (1000000000 : Int64)).toInt32 := by
  refine eqI (part_int h l1e9 (show (86400 : Int64).toInt = 86400 from by decide) (by decide) (by decide) (by decide)) ?_
  unfold TV at h
  rw [oI (dL (x := N) rfl l1e9 h.1 (by decide)) (by omega)]
  omega
theorem wh_eq {N : Int64} {q : Int32} (h : TV N) (hp : 0 ≤ q.toInt ∧ q.toInt ≤ 23) : (((N / ((3600000000000 : Int64) * (24 : Int64))) * ((3600000000000 : Int64) * (24 : Int64))) + (q.toInt64 * (3600000000000 : Int64))) + (N - N / (3600000000000 : Int64) * (3600000000000 : Int64)) = N + (((q - (fX0_hourOf N)).toInt64) * (3600000000000 : Int64)) ∧ TV (N + (((q - (fX0_hourOf N)).toInt64) * (3600000000000 : Int64))) := by
  have hh := hour_int h
  unfold TV at h
  have lm : ((3600000000000 : Int64) * (24 : Int64)).toInt = 86400000000000 := by decide
  have e1 := aL (aL (mL (dL (x := N) rfl lm h.1 (by decide)) lm (by omega)) (mL (oL (x := q) rfl) l3600 (by omega)) (by omega)) (rL (x := N) rfl l3600 h.1 (by decide)) (by omega)
  have e2 := aL (x := N) rfl (mL (oL (sI (x := q) rfl hh (by omega))) l3600 (by omega)) (by omega)
  refine ⟨eqL e1 (e2.trans (by omega)), ?_⟩
  unfold TV
  rw [e2]
  omega
theorem wm_eq {N : Int64} {q : Int32} (h : TV N) (hp : 0 ≤ q.toInt ∧ q.toInt ≤ 59) : (((N / ((60000000000 : Int64) * (60 : Int64))) * ((60000000000 : Int64) * (60 : Int64))) + (q.toInt64 * (60000000000 : Int64))) + (N - N / (60000000000 : Int64) * (60000000000 : Int64)) = N + (((q - (fX0_minuteOf N)).toInt64) * (60000000000 : Int64)) ∧ TV (N + (((q - (fX0_minuteOf N)).toInt64) * (60000000000 : Int64))) := by
  have hh := minute_int h
  unfold TV at h
  have lm : ((60000000000 : Int64) * (60 : Int64)).toInt = 3600000000000 := by decide
  have e1 := aL (aL (mL (dL (x := N) rfl lm h.1 (by decide)) lm (by omega)) (mL (oL (x := q) rfl) l60 (by omega)) (by omega)) (rL (x := N) rfl l60 h.1 (by decide)) (by omega)
  have e2 := aL (x := N) rfl (mL (oL (sI (x := q) rfl hh (by omega))) l60 (by omega)) (by omega)
  refine ⟨eqL e1 (e2.trans (by omega)), ?_⟩
  unfold TV
  rw [e2]
  omega
