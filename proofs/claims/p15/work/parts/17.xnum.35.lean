theorem dayOf_eq {y m d : Int32} (hy : -11000 ≤ y.toInt ∧ y.toInt ≤ 11000) (hm : MN m) (hd : 0 ≤ d.toInt ∧ d.toInt ≤ 400) : fX2_dayOf y m d = fX0_dayOf y m d := by
  have ha := ahead_rng (y := y) hm
  have hf : -5000000 < fd y.toInt ∧ fd y.toInt < 5000000 := by unfold fd; omega
  refine eqL ?_ (dayOf_fd hy hm hd)
  unfold fX2_dayOf
  rw [ahead_1970, in_eq hm]
  have e1 := aI (x := fX0_daysAhead y m) (y := d) rfl rfl (by omega)
  rw [sL (aL (sL (ahead_fd (oL (x := y) rfl) hy) (show (719528 : Int64).toInt = 719528 from by decide) (by omega)) (oL e1) (by omega)) (show (1 : Int64).toInt = 1 from by decide) (by omega)]
  omega
