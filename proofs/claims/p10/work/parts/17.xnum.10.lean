theorem ahead_fd {x : Int64} {z : Int} (hx : x.toInt = z) (h : -11000 ≤ z ∧ z ≤ 11000) : (fX2_ahead x).toInt = fd z := by
  unfold fX2_ahead fd
  have e1 := fl2 (aL hx (show (3 : Int64).toInt = 3 from by decide) (by omega)) (show (4 : Int64).toInt = 4 from by decide) (by decide)
  have e2 := fl2 (aL hx (show (99 : Int64).toInt = 99 from by decide) (by omega)) (show (100 : Int64).toInt = 100 from by decide) (by decide)
  have e3 := fl2 (aL hx (show (399 : Int64).toInt = 399 from by decide) (by omega)) (show (400 : Int64).toInt = 400 from by decide) (by decide)
  have e5 := mL (show (365 : Int64).toInt = 365 from by decide) hx (by omega)
  exact aL (sL (aL e5 e1 (by omega)) e2 (by omega)) e3 (by omega)
theorem ahead_1970 : fX2_ahead (1970 : Int64) = 719528 := by decide +kernel
theorem dayOf_fd {y m d : Int32} (hy : -11000 ≤ y.toInt ∧ y.toInt ≤ 11000) (hm : MN m) (hd : 0 ≤ d.toInt ∧ d.toInt ≤ 400) : (fX0_dayOf y m d).toInt = fd y.toInt - 719528 + (fX0_daysAhead y m).toInt + d.toInt - 1 := by
  have ha := ahead_rng (y := y) hm
  have hf : -5000000 < fd y.toInt ∧ fd y.toInt < 5000000 := by unfold fd; omega
  unfold fX0_dayOf
  exact sL (aL (aL (first_fd hy) (oL rfl) (by omega)) (oL rfl) (by omega)) (show (1 : Int64).toInt = 1 from by decide) (by omega)
theorem dayOf_eq {y m d : Int32} (hy : -11000 ≤ y.toInt ∧ y.toInt ≤ 11000) (hm : MN m) (hd : 0 ≤ d.toInt ∧ d.toInt ≤ 400) : fX2_dayOf y m d = fX0_dayOf y m d := by
  have ha := ahead_rng (y := y) hm
  have hf : -5000000 < fd y.toInt ∧ fd y.toInt < 5000000 := by unfold fd; omega
  refine eqL ?_ (dayOf_fd hy hm hd)
  unfold fX2_dayOf
  rw [ahead_1970, in_eq hm]
  have e1 := aI (x := fX0_daysAhead y m) (y := d) rfl rfl (by omega)
  rw [sL (aL (sL (ahead_fd (oL (x := y) rfl) hy) (show (719528 : Int64).toInt = 719528 from by decide) (by omega)) (oL e1) (by omega)) (show (1 : Int64).toInt = 1 from by decide) (by omega)]
  omega
theorem wk_eq {D : Int64} (h : -10000000 ≤ D.toInt ∧ D.toInt ≤ 10000000) : fX2_weekDay D = fX0_weekday D := by
  unfold fX2_weekDay fX0_weekday
  have e1 := aL (x := D) rfl (show (3 : Int64).toInt = 3 from by decide) (by omega)
  have e2 := fl2 e1 (show (7 : Int64).toInt = 7 from by decide) (by decide)
  have e3 := sL e1 (mL (show (7 : Int64).toInt = 7 from by decide) e2 (by omega)) (by omega)
  have e4 := fm64 e1 (show (7 : Int64).toInt = 7 from by decide) (by decide)
  have : (((D + 3) - (7 * fX2_floor (D + 3) 7)).toInt32) = (fJ9_floorMod_f86c9 (D + 3) 7).toInt32 := by
    refine eqI (oI e3 (by omega)) ?_
    rw [oI e4 (by omega)]
    omega
  rw [this]

