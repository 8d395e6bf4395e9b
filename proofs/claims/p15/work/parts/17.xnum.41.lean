theorem dMl_c {y z : Int32} (h : fX0_isLeapYear y = fX0_isLeapYear z) : ∀ (n : Nat) (r : Int64) (m : Int32), dMl n r y m = dMl n r z m := by
  intro n
  induction n with
  | zero => intro r m; rfl
  | succ n ih =>
    intro r m
    show (if lg_cmp r (fX2_daysOf y m).toInt64 < 0 then (r, m) else dMl n (r - (fX2_daysOf y m).toInt64) y (m + 1)) = (if lg_cmp r (fX2_daysOf z m).toInt64 < 0 then (r, m) else dMl n (r - (fX2_daysOf z m).toInt64) z (m + 1))
    rw [daysOf_c h, ih]
