theorem ahead_fd {x : Int64} {z : Int} (hx : x.toInt = z) (h : -11000 ≤ z ∧ z ≤ 11000) : (fX2_ahead x).toInt = fd z := by
  unfold fX2_ahead fd
  have e1 := fl2 (aL hx (show (3 : Int64).toInt = 3 from by decide) (by omega)) (show (4 : Int64).toInt = 4 from by decide) (by decide)
  have e2 := fl2 (aL hx (show (99 : Int64).toInt = 99 from by decide) (by omega)) (show (100 : Int64).toInt = 100 from by decide) (by decide)
  have e3 := fl2 (aL hx (show (399 : Int64).toInt = 399 from by decide) (by omega)) (show (400 : Int64).toInt = 400 from by decide) (by decide)
  have e5 := mL (show (365 : Int64).toInt = 365 from by decide) hx (by omega)
  exact aL (sL (aL e5 e1 (by omega)) e2 (by omega)) e3 (by omega)
