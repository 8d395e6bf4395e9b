theorem leap_eq (y : Int32) : fX2_isLeapYear y = fX0_isLeapYear y := by
  rcases leap0 y with ⟨h, e⟩ | ⟨h, e⟩ <;> rcases leap2 y with ⟨g, f⟩ | ⟨g, f⟩
  · rw [e, f]
  · exact absurd h g
  · exact absurd g h
  · rw [e, f]
def MN (m : Int32) : Prop := 1 ≤ m.toInt ∧ m.toInt ≤ 12
def YR (y : Int32) : Prop := -9999 ≤ y.toInt ∧ y.toInt ≤ 9999
