theorem eqL {x y : Int64} {a : Int} (hx : x.toInt = a) (hy : y.toInt = a) : x = y := Int64.toInt_inj.mp (hx.trans hy.symm)
theorem nm1L {c : Int64} {k : Int} (hc : c.toInt = k) (hk : 0 < k) : c ≠ -1 := fun h => by
  rw [h] at hc
  have : (-1 : Int64).toInt = -1 := by decide
  omega
theorem nm1I {c : Int32} {k : Int} (hc : c.toInt = k) (hk : 0 < k) : c ≠ -1 := fun h => by
  rw [h] at hc
  have : (-1 : Int32).toInt = -1 := by decide
  omega
