theorem goUnits_eq {S : SX} {th : Int32} (hI : Inv S) {i u : Int32} {k : Int64} {K : Int} (hi : vp_in i 6) (hu : 0 ≤ u.toInt ∧ u.toInt ≤ 7) (hk : k.toInt = K) (hK : -2147483648 ≤ K ∧ K ≤ 2147483648) : GO th (gX2_onLine (mkM th S) i k (fX2_nanosOf u)) (gX0_goUnits S i k u) := by
  obtain ⟨Q, P, u1, u2, u3, u4, u5⟩ := un8 hu
  have q1 : ((86400000000000 : Int64) / fX0_nanosOfUnit u).toInt = P := by
    rw [dL lDAY u1 (by decide) u3, ← u5, Int.mul_ediv_cancel _ (Int.ne_of_gt u3)]
  have h8 : ¬ u = 8 := fun z => by rw [z, show (8 : Int32).toInt = 8 from by decide] at hu; omega
  have e : gX0_goUnits S i k u = gX0_goLine S i (k / ((86400000000000 : Int64) / fX0_nanosOfUnit u)) ((k - (k / ((86400000000000 : Int64) / fX0_nanosOfUnit u)) * ((86400000000000 : Int64) / fX0_nanosOfUnit u)) * fX0_nanosOfUnit u) := by
    have e0 : gX0_goUnits S i k u = _ := (if_neg h8).trans peta
    rw [e0, quo u1 u3, quo q1 u4]
  rw [e, u2]
  exact unit_line hI hi hk u1 u3 u4 u5 hK
theorem week_line {S : SX} {th : Int32} (hI : Inv S) {i : Int32} {k w : Int64} {K : Int} (hi : vp_in i 6) (hk : k.toInt = K) (hw : w.toInt = K) (hK : -20000000000 ≤ K ∧ K ≤ 20000000000) : GO th (gX2_onLine (mkM th S) i k (86400000000000 : Int64)) (gX0_goLine S i w (0 : Int64)) := by
  have z : (K - K * 1) * 86400000000000 = 0 := by rw [Int.mul_one, Int.sub_self, Int.zero_mul]
  exact line_eq hI hi hk lDAY (by decide) (show (0 : Int) < 1 by decide) (by decide) (by omega) hw (by rw [z]; decide) (by omega) (by rw [z]; decide) (by rw [Int.ediv_one]; omega)
theorem weeks_eq {S : SX} {th : Int32} (hI : Inv S) {i : Int32} {k w : Int64} {K : Int} (hi : vp_in i 6) (hk : k.toInt = 7 * K) (hw : w.toInt = K) (hK : -2147483648 ≤ K ∧ K ≤ 2147483648) : GO th (gX2_onLine (mkM th S) i k (86400000000000 : Int64)) (gX0_goUnits S i w (8 : Int32)) := by
  have e : gX0_goUnits S i w (8 : Int32) = gX0_goLine S i ((7 : Int64) * w) (0 : Int64) := (if_pos rfl).trans peta
  rw [e]
  exact week_line hI hi hk (mL (show (7 : Int64).toInt = 7 from by decide) hw (by omega)) (by omega)
theorem nano_line {S : SX} {th : Int32} (hI : Inv S) {i : Int32} {k : Int64} {K : Int} (hi : vp_in i 6) (hk : k.toInt = K) (hK : -3000000000000000000 ≤ K ∧ K ≤ 3000000000000000000) : GO th (gX2_onLine (mkM th S) i k (1 : Int64)) (gX0_goLine S i (0 : Int64) k) := by
  have z : (K - 0 * 86400000000000) * 1 = K := by rw [Int.zero_mul, Int.sub_zero, Int.mul_one]
  exact line_eq hI hi hk (show (1 : Int64).toInt = 1 from by decide) (by decide) (show (0 : Int) < 86400000000000 by decide) (by decide) (by omega) (show (0 : Int64).toInt = 0 from by decide) (by rw [z]; exact hk) (by omega) (by rw [z]; omega) (by omega)
/-! the time of the day -/
theorem l3600 : (3600000000000 : Int64).toInt = 3600000000000 := by decide
theorem l60 : (60000000000 : Int64).toInt = 60000000000 := by decide
theorem l1e9 : (1000000000 : Int64).toInt = 1000000000 := by decide
theorem hour_int {N : Int64} (h : TV N) : (fX0_hourOf N).toInt = N.toInt / 3600000000000 := by
  unfold TV at h
  exact oI (dL (x := N) rfl l3600 h.1 (by decide)) (by omega)
theorem minute_int {N : Int64} (h : TV N) : (fX0_minuteOf N).toInt = N.toInt % 3600000000000 / 60000000000 := by
  unfold TV at h
  exact oI (dL (rL (x := N) rfl l3600 h.1 (by decide)) l60 (by omega) (by decide)) (by omega)
theorem second_int {N : Int64} (h : TV N) : (fX0_secondOf N).toInt = N.toInt % 60000000000 / 1000000000 := by
  unfold TV at h
  exact oI (dL (rL (x := N) rfl l60 h.1 (by decide)) l1e9 (by omega) (by decide)) (by omega)
theorem nano_int {N : Int64} (h : TV N) : (fX0_nanoOfSecond N).toInt = N.toInt % 1000000000 := by
  unfold TV at h
  exact oI (rL (x := N) rfl l1e9 h.1 (by decide)) (by omega)
