theorem vin_of {x : Int32} (h : ¬ x < 0) (h2 : x < 6) : vp_in x 6 := by
  rw [vp_in_iff]
  have a1 : ¬ x.toInt < 0 := fun q => h (Int32.lt_iff_toInt_lt.mpr q)
  have a2 := Int32.lt_iff_toInt_lt.mp h2
  have e : (6 : Int32).toInt = 6 := by decide
  omega
