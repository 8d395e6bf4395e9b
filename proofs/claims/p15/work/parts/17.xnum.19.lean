theorem fm64 {x c : Int64} {a k : Int} (hx : x.toInt = a) (hc : c.toInt = k) (hk : 0 < k) : (fJ9_floorMod_f86c9 x c).toInt = a % k := by
  have hr := fb_rngL x
  have kl : k ≤ 9223372036854775807 := by have := fb_rngL c; omega
  unfold fJ9_floorMod_f86c9
  rcases Int.le_total 0 a with h | h
  · rw [if_pos ((xsL (by omega)).mpr (by omega))]
    exact rL hx hc h hk
  · by_cases ha : a = 0
    · rw [if_pos ((xsL (by omega)).mpr (by omega))]
      exact rL hx hc (by omega) hk
    rw [if_neg (fun z => absurd ((xsL (by omega)).mp z) (by omega))]
    have h1 := Int.emod_add_mul_ediv (-a) k
    have h2 := Int.emod_nonneg (-a) (Int.ne_of_gt hk)
    have h3 := Int.emod_lt_of_pos (-a) hk
    have h4 := Int.mul_nonneg (Int.le_of_lt hk) (Int.ediv_nonneg (a := -a) (by omega) (Int.le_of_lt hk))
    have e1 := dLn hx hc h hk
    have e2 : ((x / c) * c).toInt = -((-a) / k) * k := mL e1 hc (by rw [Int.neg_mul, Int.mul_comm]; omega)
    have e3 : (x - x / c * c).toInt = a - -((-a) / k) * k := sL hx e2 (by rw [Int.neg_mul, Int.mul_comm]; omega)
    rw [Int.neg_mul, Int.mul_comm] at e3
    have e4 : (x - x / c * c).toInt = -((-a) % k) := by rw [e3]; omega
    have ed := edn (n := -a) hk
    rw [Int.neg_neg] at ed
    by_cases h0 : (-a) % k = 0
    · rw [if_pos (lgc_eq.mpr (by rw [e4, show (0 : Int64).toInt = 0 from by decide]; omega)), e4, (ed.1 h0).2]; omega
    · rw [if_neg (fun z => absurd (lgc_eq.mp z) (by rw [e4, show (0 : Int64).toInt = 0 from by decide]; omega)), (ed.2 h0).2]
      have e5 := aL e4 hc (by omega)
      rw [e5]; omega
