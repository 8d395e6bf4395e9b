theorem dI {x c : Int32} {a k : Int} (hx : x.toInt = a) (hc : c.toInt = k) (h0 : 0 ≤ a) (hk : 0 < k) : (x / c).toInt = a / k := by
  rw [Int32.toInt_div_of_ne_right _ _ (nm1I hc hk), hx, hc, tdivP h0]
