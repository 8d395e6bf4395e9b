theorem wk_eq {D : Int64} (h : -10000000 ≤ D.toInt ∧ D.toInt ≤ 10000000) : fX2_weekDay D = fX0_weekday D := by
  unfold fX2_weekDay fX0_weekday
  have e1 := aL (x := D) rfl (show (3 : Int64).toInt = 3 from by decide) (by omega)
  have e2 := fl2 e1 (show (7 : Int64).toInt = 7 from by decide) (by decide)
  have e3 := sL e1 (mL (show (7 : Int64).toInt = 7 from by decide) e2 (by omega)) (by omega)
  have e4 := fm64 e1 (show (7 : Int64).toInt = 7 from by decide) (by decide)
  have : (((D + 3) - (7 * fX2_floor (D + 3) 7)).toInt32) = (fJ9_floorMod_f86c9 (D + 3) 7).toInt32 := by
    refine eqI (oI e3 (by omega)) ?_
    rw [oI e4 (by omega)]
    omega
  rw [this]

