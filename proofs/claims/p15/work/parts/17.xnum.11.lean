theorem rL {x c : Int64} {a k : Int} (hx : x.toInt = a) (hc : c.toInt = k) (h0 : 0 ≤ a) (hk : 0 < k) : (x - x / c * c).toInt = a % k := by
  have hr := fb_rngL x
  have h1 := Int.emod_add_mul_ediv a k
  have h2 := Int.emod_nonneg a (Int.ne_of_gt hk)
  have h3 := Int.emod_lt_of_pos a hk
  have h4 := Int.ediv_nonneg h0 (Int.le_of_lt hk)
  have e1 : (x / c * c).toInt = a / k * k := mL (dL hx hc h0 hk) hc (by rw [Int.mul_comm]; have := Int.mul_nonneg (Int.le_of_lt hk) h4; omega)
  rw [sL hx e1 (by rw [Int.mul_comm]; have := Int.mul_nonneg (Int.le_of_lt hk) h4; omega), Int.mul_comm]
  omega
