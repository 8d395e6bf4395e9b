theorem ahead_rng {y m : Int32} (h : MN m) : 0 ≤ (fX0_daysAhead y m).toInt ∧ (fX0_daysAhead y m).toInt ≤ 335 := by
  have hl : fX0_isLeapYear y = 1 ∨ fX0_isLeapYear y = 0 := by rcases leap0 y with ⟨-, e⟩ | ⟨-, e⟩ <;> simp [e]
  rcases mn_cases h with rfl | rfl | rfl | rfl | rfl | rfl | rfl | rfl | rfl | rfl | rfl | rfl <;> rcases hl with hl | hl <;> unfold fX0_daysAhead <;> rw [hl] <;> decide
