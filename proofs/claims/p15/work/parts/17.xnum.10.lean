theorem dL {x c : Int64} {a k : Int} (hx : x.toInt = a) (hc : c.toInt = k) (h0 : 0 ≤ a) (hk : 0 < k) : (x / c).toInt = a / k := by
  rw [Int64.toInt_div_of_ne_right _ _ (nm1L hc hk), hx, hc, tdivP h0]
theorem dLn {x c : Int64} {a k : Int} (hx : x.toInt = a) (hc : c.toInt = k) (h0 : a ≤ 0) (hk : 0 < k) : (x / c).toInt = -((-a) / k) := by
  rw [Int64.toInt_div_of_ne_right _ _ (nm1L hc hk), hx, hc, tdivN h0]
