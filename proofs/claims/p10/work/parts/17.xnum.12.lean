theorem daysOf_c {y z : Int32} (h : fX0_isLeapYear y = fX0_isLeapYear z) (m : Int32) : fX2_daysOf y m = fX2_daysOf z m := by
  unfold fX2_daysOf
  rw [leap_eq, leap_eq, h]
theorem dMb_c {y z : Int32} (h : fX0_isLeapYear y = fX0_isLeapYear z) : ∀ (n : Nat) (r : Int64) (m : Int32), dMb n r y m = dMb n r z m := by
  intro n
  induction n with
  | zero => intro r m; rfl
  | succ n ih =>
    intro r m
    show (if lg_cmp r (fX2_daysOf y m).toInt64 < 0 then true else dMb n (r - (fX2_daysOf y m).toInt64) y (m + 1)) = (if lg_cmp r (fX2_daysOf z m).toInt64 < 0 then true else dMb n (r - (fX2_daysOf z m).toInt64) z (m + 1))
    rw [daysOf_c h, ih]
theorem dMl_c {y z : Int32} (h : fX0_isLeapYear y = fX0_isLeapYear z) : ∀ (n : Nat) (r : Int64) (m : Int32), dMl n r y m = dMl n r z m := by
  intro n
  induction n with
  | zero => intro r m; rfl
  | succ n ih =>
    intro r m
    show (if lg_cmp r (fX2_daysOf y m).toInt64 < 0 then (r, m) else dMl n (r - (fX2_daysOf y m).toInt64) y (m + 1)) = (if lg_cmp r (fX2_daysOf z m).toInt64 < 0 then (r, m) else dMl n (r - (fX2_daysOf z m).toInt64) z (m + 1))
    rw [daysOf_c h, ih]
theorem daysAhead_c {y z : Int32} (h : fX0_isLeapYear y = fX0_isLeapYear z) (m : Int32) : fX0_daysAhead y m = fX0_daysAhead z m := by
  unfold fX0_daysAhead
  rw [h]
theorem monthLength_c {y z : Int32} (h : fX0_isLeapYear y = fX0_isLeapYear z) (m : Int32) : fX0_monthLength y m = fX0_monthLength z m := by
  unfold fX0_monthLength
  rw [h]
theorem monthOf_c {y z : Int32} (h : fX0_isLeapYear y = fX0_isLeapYear z) (d : Int32) : fX0_monthOf y d = fX0_monthOf z d := by
  unfold fX0_monthOf
  simp only [daysAhead_c h]
/-- what is to be seen of one day of a year -/
def okD (y : Int32) (j : Nat) : Bool :=
  dMb 13 (Int64.ofNat j) y 1 && decide ((dMl 13 (Int64.ofNat j) y 1).2 = fX0_monthOf y (nI (j + 1))) && decide (((dMl 13 (Int64.ofNat j) y 1).1.toInt32 + 1) = nI (j + 1) - fX0_daysAhead y (fX0_monthOf y (nI (j + 1)))) &&
  decide (1 ≤ fX0_monthOf y (nI (j + 1))) && decide (fX0_monthOf y (nI (j + 1)) ≤ 12) && decide (1 ≤ nI (j + 1) - fX0_daysAhead y (fX0_monthOf y (nI (j + 1)))) && decide (nI (j + 1) - fX0_daysAhead y (fX0_monthOf y (nI (j + 1))) ≤ fX0_monthLength y (fX0_monthOf y (nI (j + 1))))
theorem okD_leap : ∀ j : Nat, j < 366 → okD 2000 j = true := by decide +kernel
theorem okD_plain : ∀ j : Nat, j < 365 → okD 2001 j = true := by decide +kernel
theorem okD_c {y z : Int32} (h : fX0_isLeapYear y = fX0_isLeapYear z) (j : Nat) : okD y j = okD z j := by
  unfold okD
  simp only [dMb_c h, dMl_c h, daysAhead_c h, monthLength_c h, monthOf_c h]
