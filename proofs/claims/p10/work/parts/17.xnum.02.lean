theorem dLn {x c : Int64} {a k : Int} (hx : x.toInt = a) (hc : c.toInt = k) (h0 : a ≤ 0) (hk : 0 < k) : (x / c).toInt = -((-a) / k) := by
  rw [Int64.toInt_div_of_ne_right _ _ (nm1L hc hk), hx, hc, tdivN h0]
theorem rL {x c : Int64} {a k : Int} (hx : x.toInt = a) (hc : c.toInt = k) (h0 : 0 ≤ a) (hk : 0 < k) : (x - x / c * c).toInt = a % k := by
  have hr := fb_rngL x
  have h1 := Int.emod_add_mul_ediv a k
  have h2 := Int.emod_nonneg a (Int.ne_of_gt hk)
  have h3 := Int.emod_lt_of_pos a hk
  have h4 := Int.ediv_nonneg h0 (Int.le_of_lt hk)
  have e1 : (x / c * c).toInt = a / k * k := mL (dL hx hc h0 hk) hc (by rw [Int.mul_comm]; have := Int.mul_nonneg (Int.le_of_lt hk) h4; omega)
  rw [sL hx e1 (by rw [Int.mul_comm]; have := Int.mul_nonneg (Int.le_of_lt hk) h4; omega), Int.mul_comm]
  omega
theorem dI {x c : Int32} {a k : Int} (hx : x.toInt = a) (hc : c.toInt = k) (h0 : 0 ≤ a) (hk : 0 < k) : (x / c).toInt = a / k := by
  rw [Int32.toInt_div_of_ne_right _ _ (nm1I hc hk), hx, hc, tdivP h0]
theorem rI {x c : Int32} {a k : Int} (hx : x.toInt = a) (hc : c.toInt = k) (h0 : 0 ≤ a) (hk : 0 < k) : (x - x / c * c).toInt = a % k := by
  have hr := fb_rng x
  have h1 := Int.emod_add_mul_ediv a k
  have h2 := Int.emod_nonneg a (Int.ne_of_gt hk)
  have h3 := Int.emod_lt_of_pos a hk
  have h4 := Int.ediv_nonneg h0 (Int.le_of_lt hk)
  have e1 : (x / c * c).toInt = a / k * k := mI (dI hx hc h0 hk) hc (by rw [Int.mul_comm]; have := Int.mul_nonneg (Int.le_of_lt hk) h4; omega)
  rw [sI hx e1 (by rw [Int.mul_comm]; have := Int.mul_nonneg (Int.le_of_lt hk) h4; omega), Int.mul_comm]
  omega
/-- the floor of a number below 0 -/
theorem edn {n b : Int} (hb : 0 < b) : (n % b = 0 → (-n) / b = -(n / b) ∧ (-n) % b = 0) ∧ (n % b ≠ 0 → (-n) / b = -(n / b) - 1 ∧ (-n) % b = b - n % b) := by
  have h1 := Int.emod_add_mul_ediv n b
  have h2 := Int.emod_nonneg n (Int.ne_of_gt hb)
  have h3 := Int.emod_lt_of_pos n hb
  refine ⟨fun h => (Int.ediv_emod_unique hb).mpr ⟨?_, by omega, hb⟩, fun h => (Int.ediv_emod_unique hb).mpr ⟨?_, by omega, by omega⟩⟩
  · rw [Int.mul_neg]; omega
  · rw [Int.mul_sub, Int.mul_neg, Int.mul_one]; omega
