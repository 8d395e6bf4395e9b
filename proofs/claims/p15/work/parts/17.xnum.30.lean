/-- the days of a year ahead of a month: equal to the reference's sum -/
theorem in_eq {y m d : Int32} (h : MN m) : fX2_inYear y m d = fX0_daysAhead y m + d := by
  have hl : fX0_isLeapYear y = 1 ∨ fX0_isLeapYear y = 0 := by rcases leap0 y with ⟨-, e⟩ | ⟨-, e⟩ <;> simp [e]
  rw [Int32.add_comm]
  rcases mn_cases h with rfl | rfl | rfl | rfl | rfl | rfl | rfl | rfl | rfl | rfl | rfl | rfl <;> rcases hl with hl | hl <;> unfold fX2_inYear fX0_daysAhead <;> simp only [fX2_daysOf, leap_eq, hl] <;> simp <;> simp only [Int32.add_assoc] <;> rfl
