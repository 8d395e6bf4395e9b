theorem ahead_1970 : fX2_ahead (1970 : Int64) = 719528 := by decide +kernel
theorem dayOf_fd {y m d : Int32} (hy : -11000 ≤ y.toInt ∧ y.toInt ≤ 11000) (hm : MN m) (hd : 0 ≤ d.toInt ∧ d.toInt ≤ 400) : (fX0_dayOf y m d).toInt = fd y.toInt - 719528 + (fX0_daysAhead y m).toInt + d.toInt - 1 := by
  have ha := ahead_rng (y := y) hm
  have hf : -5000000 < fd y.toInt ∧ fd y.toInt < 5000000 := by unfold fd; omega
  unfold fX0_dayOf
  exact sL (aL (aL (first_fd hy) (oL rfl) (by omega)) (oL rfl) (by omega)) (show (1 : Int64).toInt = 1 from by decide) (by omega)
