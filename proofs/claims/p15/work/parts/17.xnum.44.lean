theorem okD_leap : ∀ j : Nat, j < 366 → okD 2000 j = true := by decide +kernel
theorem okD_plain : ∀ j : Nat, j < 365 → okD 2001 j = true := by decide +kernel
theorem okD_c {y z : Int32} (h : fX0_isLeapYear y = fX0_isLeapYear z) (j : Nat) : okD y j = okD z j := by
  unfold okD
  simp only [dMb_c h, dMl_c h, daysAhead_c h, monthLength_c h, monthOf_c h]
