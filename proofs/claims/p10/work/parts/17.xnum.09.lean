theorem ylen_fd (y : Int32) : (fX0_yearLength y).toInt = fd (y.toInt + 1) - fd y.toInt := by
  unfold fX0_yearLength
  rcases leap0 y with ⟨h, e⟩ | ⟨h, e⟩
  · rw [e, if_neg (by decide), fd_leap h]; show (366 : Int) = _; omega
  · rw [e, if_pos rfl, fd_plain h]; show (365 : Int) = _; omega
/-- the days of a year ahead of a month: equal to the reference's sum -/
theorem in_eq {y m d : Int32} (h : MN m) : fX2_inYear y m d = fX0_daysAhead y m + d := by
  have hl : fX0_isLeapYear y = 1 ∨ fX0_isLeapYear y = 0 := by rcases leap0 y with ⟨-, e⟩ | ⟨-, e⟩ <;> simp [e]
  rw [Int32.add_comm]
  rcases mn_cases h with rfl | rfl | rfl | rfl | rfl | rfl | rfl | rfl | rfl | rfl | rfl | rfl <;> rcases hl with hl | hl <;> unfold fX2_inYear fX0_daysAhead <;> simp only [fX2_daysOf, leap_eq, hl] <;> simp <;> simp only [Int32.add_assoc] <;> rfl
theorem ahead_rng {y m : Int32} (h : MN m) : 0 ≤ (fX0_daysAhead y m).toInt ∧ (fX0_daysAhead y m).toInt ≤ 335 := by
  have hl : fX0_isLeapYear y = 1 ∨ fX0_isLeapYear y = 0 := by rcases leap0 y with ⟨-, e⟩ | ⟨-, e⟩ <;> simp [e]
  rcases mn_cases h with rfl | rfl | rfl | rfl | rfl | rfl | rfl | rfl | rfl | rfl | rfl | rfl <;> rcases hl with hl | hl <;> unfold fX0_daysAhead <;> rw [hl] <;> decide
theorem first_fd {y : Int32} (h : -11000 ≤ y.toInt ∧ y.toInt ≤ 11000) : (fX0_firstDayOf y).toInt = fd y.toInt - 719528 := by
  unfold fX0_firstDayOf fd
  have e1 := fd32 (aI (x := y) (y := 3) rfl (show (3 : Int32).toInt = 3 from by decide) (by omega)) (show (4 : Int32).toInt = 4 from by decide) (by decide)
  have e2 := fd32 (aI (x := y) (y := 99) rfl (show (99 : Int32).toInt = 99 from by decide) (by omega)) (show (100 : Int32).toInt = 100 from by decide) (by decide)
  have e3 := fd32 (aI (x := y) (y := 399) rfl (show (399 : Int32).toInt = 399 from by decide) (by omega)) (show (400 : Int32).toInt = 400 from by decide) (by decide)
  have e4 := aI (sI e1 e2 (by omega)) e3 (by omega)
  have e5 := mL (show (365 : Int64).toInt = 365 from by decide) (oL (x := y) rfl) (by omega)
  rw [sL (aL e5 (oL e4) (by omega)) (show (719528 : Int64).toInt = 719528 from by decide) (by omega)]
  omega
