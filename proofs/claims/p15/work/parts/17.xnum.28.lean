theorem len_eq {y m : Int32} (h : MN m) : fX2_daysOf y m = fX0_monthLength y m := by
  rcases mn_cases h with rfl | rfl | rfl | rfl | rfl | rfl | rfl | rfl | rfl | rfl | rfl | rfl <;> unfold fX2_daysOf fX0_monthLength <;> try rfl
  rw [leap_eq]
  rfl
theorem len_rng {y m : Int32} : 28 ≤ (fX0_monthLength y m).toInt ∧ (fX0_monthLength y m).toInt ≤ 31 := by
  unfold fX0_monthLength
  repeat' split
  all_goals decide
theorem ylen_eq (y : Int32) : fX2_daysOf_ y = fX0_yearLength y := by
  unfold fX2_daysOf_ fX0_yearLength
  rw [leap_eq]
