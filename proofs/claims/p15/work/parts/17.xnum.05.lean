theorem tdivN {a : Int} (h : a ≤ 0) (c : Int) : a.tdiv c = -((-a) / c) := by
  have h2 := Int.neg_tdiv (-a) c
  rw [Int.neg_neg] at h2
  rw [h2, Int.tdiv_eq_ediv_of_nonneg (by omega)]
theorem tdivP {a : Int} (h : 0 ≤ a) (c : Int) : a.tdiv c = a / c := Int.tdiv_eq_ediv_of_nonneg h

/-! numbers: conversions to Int -/
theorem aI {x y : Int32} {a b : Int} (hx : x.toInt = a) (hy : y.toInt = b) (h : -2147483648 ≤ a + b ∧ a + b < 2147483648) : (x + y).toInt = a + b := by subst hx; subst hy; exact fb_addI h.1 h.2
