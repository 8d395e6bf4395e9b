theorem md_0 {y c : Int32} {k : Int} (hc : c.toInt = k) (hk : 0 < k) : (y - y / c * c) = 0 ↔ y.toInt % k = 0 := by
  have hr := fb_rng y
  have kl : k ≤ 2147483647 := by have := fb_rng c; omega
  have z0 : (0 : Int32).toInt = 0 := by decide
  rcases Int.le_total 0 y.toInt with h | h
  · have e := rI (x := y) rfl hc h hk
    rw [← e, ← z0, Int32.toInt_inj]
  · have h1 := Int.emod_add_mul_ediv (-y.toInt) k
    have h2 := Int.emod_nonneg (-y.toInt) (Int.ne_of_gt hk)
    have h3 := Int.emod_lt_of_pos (-y.toInt) hk
    have h4 := Int.mul_nonneg (Int.le_of_lt hk) (Int.ediv_nonneg (a := -y.toInt) (by omega) (Int.le_of_lt hk))
    have e1 : (y / c).toInt = -((-y.toInt) / k) := by rw [Int32.toInt_div_of_ne_right _ _ (nm1I hc hk), hc, tdivN h]
    have e2 : ((y / c) * c).toInt = -((-y.toInt) / k) * k := mI e1 hc (by rw [Int.neg_mul, Int.mul_comm]; omega)
    have e3 : (y - y / c * c).toInt = y.toInt - -((-y.toInt) / k) * k := sI rfl e2 (by rw [Int.neg_mul, Int.mul_comm]; omega)
    rw [Int.neg_mul, Int.mul_comm] at e3
    have ed := edn (n := -y.toInt) hk
    rw [Int.neg_neg] at ed
    rw [← Int32.toInt_inj, z0, e3]
    by_cases h0 : (-y.toInt) % k = 0
    · have := (ed.1 h0).2; omega
    · have := (ed.2 h0).2; omega
