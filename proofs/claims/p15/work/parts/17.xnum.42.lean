theorem daysAhead_c {y z : Int32} (h : fX0_isLeapYear y = fX0_isLeapYear z) (m : Int32) : fX0_daysAhead y m = fX0_daysAhead z m := by
  unfold fX0_daysAhead
  rw [h]
theorem monthLength_c {y z : Int32} (h : fX0_isLeapYear y = fX0_isLeapYear z) (m : Int32) : fX0_monthLength y m = fX0_monthLength z m := by
  unfold fX0_monthLength
  rw [h]
theorem monthOf_c {y z : Int32} (h : fX0_isLeapYear y = fX0_isLeapYear z) (d : Int32) : fX0_monthOf y d = fX0_monthOf z d := by
  unfold fX0_monthOf
  simp only [daysAhead_c h]
