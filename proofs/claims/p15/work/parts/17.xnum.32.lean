theorem first_fd {y : Int32} (h : -11000 ≤ y.toInt ∧ y.toInt ≤ 11000) : (fX0_firstDayOf y).toInt = fd y.toInt - 719528 := by
  unfold fX0_firstDayOf fd
  have e1 := fd32 (aI (x := y) (y := 3) rfl (show (3 : Int32).toInt = 3 from by decide) (by omega)) (show (4 : Int32).toInt = 4 from by decide) (by decide)
  have e2 := fd32 (aI (x := y) (y := 99) rfl (show (99 : Int32).toInt = 99 from by decide) (by omega)) (show (100 : Int32).toInt = 100 from by decide) (by decide)
  have e3 := fd32 (aI (x := y) (y := 399) rfl (show (399 : Int32).toInt = 399 from by decide) (by omega)) (show (400 : Int32).toInt = 400 from by decide) (by decide)
  have e4 := aI (sI e1 e2 (by omega)) e3 (by omega)
  have e5 := mL (show (365 : Int64).toInt = 365 from by decide) (oL (x := y) rfl) (by omega)
  rw [sL (aL e5 (oL e4) (by omega)) (show (719528 : Int64).toInt = 719528 from by decide) (by omega)]
  omega
