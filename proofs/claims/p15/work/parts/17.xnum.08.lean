theorem gL {x : Int64} {a : Int} (hx : x.toInt = a) (h : -9223372036854775808 < a) : (-x).toInt = -a := by
  subst hx
  have := fb_rngL x
  rw [Int64.toInt_neg, fb_bmodL (by omega) (by omega)]
theorem oL {x : Int32} {a : Int} (hx : x.toInt = a) : (x.toInt64).toInt = a := by rw [Int32.toInt_toInt64]; exact hx
theorem oI {x : Int64} {a : Int} (hx : x.toInt = a) (h : -2147483648 ≤ a ∧ a < 2147483648) : (x.toInt32).toInt = a := by rw [Int64.toInt_toInt32, hx, fb_bmod h.1 h.2]
theorem eqI {x y : Int32} {a : Int} (hx : x.toInt = a) (hy : y.toInt = a) : x = y := Int32.toInt_inj.mp (hx.trans hy.symm)
