theorem fd32 {x c : Int32} {a k : Int} (hx : x.toInt = a) (hc : c.toInt = k) (hk : 0 < k) : (fJ9_floorDiv_7cf53 x c).toInt = a / k := by
  have hr := fb_rng x
  have kl : k ≤ 2147483647 := by have := fb_rng c; omega
  unfold fJ9_floorDiv_7cf53
  rcases Int.le_total 0 a with h | h
  · rw [if_pos ((xsI (by omega)).mpr (by omega))]
    exact dI hx hc h hk
  · by_cases ha : a = 0
    · rw [if_pos ((xsI (by omega)).mpr (by omega))]
      exact dI hx hc (by omega) hk
    rw [if_neg (fun z => absurd ((xsI (by omega)).mp z) (by omega))]
    have h1 := Int.emod_add_mul_ediv (-a) k
    have h2 := Int.emod_nonneg (-a) (Int.ne_of_gt hk)
    have h3 := Int.emod_lt_of_pos (-a) hk
    have h4 := Int.mul_nonneg (Int.le_of_lt hk) (Int.ediv_nonneg (a := -a) (by omega) (Int.le_of_lt hk))
    have e1 : (x / c).toInt = -((-a) / k) := by rw [Int32.toInt_div_of_ne_right _ _ (nm1I hc hk), hx, hc, tdivN h]
    have e2 : ((x / c) * c).toInt = -((-a) / k) * k := mI e1 hc (by rw [Int.neg_mul, Int.mul_comm]; omega)
    rw [Int.neg_mul, Int.mul_comm] at e2
    have ed := edn (n := -a) hk
    rw [Int.neg_neg] at ed
    by_cases h0 : (-a) % k = 0
    · rw [if_pos (Int32.toInt_inj.mp (by rw [e2, hx]; omega)), e1, (ed.1 h0).1]
    · rw [if_neg (fun z => by rw [z, hx] at e2; omega), (ed.2 h0).1]
      have h5 := Int.mul_le_mul_of_nonneg_right (show (1 : Int) ≤ k by omega) (Int.ediv_nonneg (a := -a) (b := k) (by omega) (Int.le_of_lt hk))
      rw [Int.one_mul] at h5
      have h6 : 0 ≤ (-a) / k := Int.ediv_nonneg (by omega) (Int.le_of_lt hk)
      exact sI e1 (show (1 : Int32).toInt = 1 from by decide) (by omega)
