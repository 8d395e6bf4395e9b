theorem daysOf_c {y z : Int32} (h : fX0_isLeapYear y = fX0_isLeapYear z) (m : Int32) : fX2_daysOf y m = fX2_daysOf z m := by
  unfold fX2_daysOf
  rw [leap_eq, leap_eq, h]
