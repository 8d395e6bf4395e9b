/-- what is to be seen of one day of a year -/
def okD (y : Int32) (j : Nat) : Bool :=
  dMb 13 (Int64.ofNat j) y 1 && decide ((dMl 13 (Int64.ofNat j) y 1).2 = fX0_monthOf y (nI (j + 1))) && decide (((dMl 13 (Int64.ofNat j) y 1).1.toInt32 + 1) = nI (j + 1) - fX0_daysAhead y (fX0_monthOf y (nI (j + 1)))) &&
  decide (1 ≤ fX0_monthOf y (nI (j + 1))) && decide (fX0_monthOf y (nI (j + 1)) ≤ 12) && decide (1 ≤ nI (j + 1) - fX0_daysAhead y (fX0_monthOf y (nI (j + 1)))) && decide (nI (j + 1) - fX0_daysAhead y (fX0_monthOf y (nI (j + 1))) ≤ fX0_monthLength y (fX0_monthOf y (nI (j + 1))))
