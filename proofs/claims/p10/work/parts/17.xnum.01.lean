/-! numbers: conversions to Int -/
theorem aI {x y : Int32} {a b : Int} (hx : x.toInt = a) (hy : y.toInt = b) (h : -2147483648 ≤ a + b ∧ a + b < 2147483648) : (x + y).toInt = a + b := by subst hx; subst hy; exact fb_addI h.1 h.2
theorem sI {x y : Int32} {a b : Int} (hx : x.toInt = a) (hy : y.toInt = b) (h : -2147483648 ≤ a - b ∧ a - b < 2147483648) : (x - y).toInt = a - b := by subst hx; subst hy; exact fb_subI h.1 h.2
theorem mI {x y : Int32} {a b : Int} (hx : x.toInt = a) (hy : y.toInt = b) (h : -2147483648 ≤ a * b ∧ a * b < 2147483648) : (x * y).toInt = a * b := by subst hx; subst hy; exact fb_mulI h.1 h.2
theorem aL {x y : Int64} {a b : Int} (hx : x.toInt = a) (hy : y.toInt = b) (h : -9223372036854775808 ≤ a + b ∧ a + b < 9223372036854775808) : (x + y).toInt = a + b := by subst hx; subst hy; exact fb_addL h.1 h.2
theorem sL {x y : Int64} {a b : Int} (hx : x.toInt = a) (hy : y.toInt = b) (h : -9223372036854775808 ≤ a - b ∧ a - b < 9223372036854775808) : (x - y).toInt = a - b := by subst hx; subst hy; exact fb_subL h.1 h.2
theorem mL {x y : Int64} {a b : Int} (hx : x.toInt = a) (hy : y.toInt = b) (h : -9223372036854775808 ≤ a * b ∧ a * b < 9223372036854775808) : (x * y).toInt = a * b := by subst hx; subst hy; exact fb_mulL h.1 h.2
theorem gL {x : Int64} {a : Int} (hx : x.toInt = a) (h : -9223372036854775808 < a) : (-x).toInt = -a := by
  subst hx
  have := fb_rngL x
  rw [Int64.toInt_neg, fb_bmodL (by omega) (by omega)]
theorem oL {x : Int32} {a : Int} (hx : x.toInt = a) : (x.toInt64).toInt = a := by rw [Int32.toInt_toInt64]; exact hx
theorem oI {x : Int64} {a : Int} (hx : x.toInt = a) (h : -2147483648 ≤ a ∧ a < 2147483648) : (x.toInt32).toInt = a := by rw [Int64.toInt_toInt32, hx, fb_bmod h.1 h.2]
theorem eqI {x y : Int32} {a : Int} (hx : x.toInt = a) (hy : y.toInt = a) : x = y := Int32.toInt_inj.mp (hx.trans hy.symm)
theorem eqL {x y : Int64} {a : Int} (hx : x.toInt = a) (hy : y.toInt = a) : x = y := Int64.toInt_inj.mp (hx.trans hy.symm)
theorem nm1L {c : Int64} {k : Int} (hc : c.toInt = k) (hk : 0 < k) : c ≠ -1 := fun h => by
  rw [h] at hc
  have : (-1 : Int64).toInt = -1 := by decide
  omega
theorem nm1I {c : Int32} {k : Int} (hc : c.toInt = k) (hk : 0 < k) : c ≠ -1 := fun h => by
  rw [h] at hc
  have : (-1 : Int32).toInt = -1 := by decide
  omega
theorem dL {x c : Int64} {a k : Int} (hx : x.toInt = a) (hc : c.toInt = k) (h0 : 0 ≤ a) (hk : 0 < k) : (x / c).toInt = a / k := by
  rw [Int64.toInt_div_of_ne_right _ _ (nm1L hc hk), hx, hc, tdivP h0]
