theorem fl2 {x c : Int64} {a k : Int} (hx : x.toInt = a) (hc : c.toInt = k) (hk : 0 < k) : (fX2_floor x c).toInt = a / k := by
  have hr := fb_rngL x
  have kl : k ≤ 9223372036854775807 := by have := fb_rngL c; omega
  unfold fX2_floor
  rcases Int.le_total 0 a with h | h
  · have h1 := Int.emod_add_mul_ediv a k
    have h2 := Int.emod_nonneg a (Int.ne_of_gt hk)
    have h4 := Int.mul_nonneg (Int.le_of_lt hk) (Int.ediv_nonneg h (Int.le_of_lt hk))
    have e2 : ((x / c) * c).toInt = a / k * k := mL (dL hx hc h hk) hc (by rw [Int.mul_comm]; omega)
    rw [Int.mul_comm] at e2
    rw [if_pos (lgc_le.mpr (by rw [e2]; omega))]
    exact dL hx hc h hk
  · have h1 := Int.emod_add_mul_ediv (-a) k
    have h2 := Int.emod_nonneg (-a) (Int.ne_of_gt hk)
    have h3 := Int.emod_lt_of_pos (-a) hk
    have h4 := Int.mul_nonneg (Int.le_of_lt hk) (Int.ediv_nonneg (a := -a) (by omega) (Int.le_of_lt hk))
    have e1 := dLn hx hc h hk
    have e2 : ((x / c) * c).toInt = -((-a) / k) * k := mL e1 hc (by rw [Int.neg_mul, Int.mul_comm]; omega)
    rw [Int.neg_mul, Int.mul_comm] at e2
    have ed := edn (n := -a) hk
    rw [Int.neg_neg] at ed
    by_cases h0 : (-a) % k = 0
    · rw [if_pos (lgc_le.mpr (by rw [e2]; omega)), e1, (ed.1 h0).1]
    · rw [if_neg (fun z => absurd (lgc_le.mp z) (by rw [e2]; omega)), (ed.2 h0).1]
      have h5 := Int.mul_le_mul_of_nonneg_right (show (1 : Int) ≤ k by omega) (Int.ediv_nonneg (a := -a) (b := k) (by omega) (Int.le_of_lt hk))
      rw [Int.one_mul] at h5
      have h6 : 0 ≤ (-a) / k := Int.ediv_nonneg (by omega) (Int.le_of_lt hk)
      exact sL e1 (show (1 : Int64).toInt = 1 from by decide) (by omega)
