theorem mon12 (x : Int64) : ((x - 12 * fX2_floor x 12).toInt32 + 1) ≤ 12 := by
  have hr := fb_rngL x
  have l : (12 : Int64).toInt = 12 := by decide
  have e1 := fl2 (x := x) rfl l (by decide)
  have e3 : (x - 12 * fX2_floor x 12).toInt = x.toInt - 12 * (x.toInt / 12) := by
    rw [Int64.toInt_sub, Int64.toInt_mul, l, e1, Int.sub_bmod_bmod]
    exact fb_bmodL (by omega) (by omega)
  have e4 := aI (oI e3 (by omega)) (show (1 : Int32).toInt = 1 from by decide) (by omega)
  rw [Int32.le_iff_toInt_le, e4, show (12 : Int32).toInt = 12 from by decide]
  omega
