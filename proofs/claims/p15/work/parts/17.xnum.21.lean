/-! the calendar -/
def fd (z : Int) : Int := 365 * z + (z + 3) / 4 - (z + 99) / 100 + (z + 399) / 400
def lp (z : Int) : Prop := z % 4 = 0 ∧ (z % 100 = 0 → z % 400 = 0)
theorem fd_leap {z : Int} (h : lp z) : fd (z + 1) = fd z + 366 := by unfold lp at h; unfold fd; omega
theorem fd_plain {z : Int} (h : ¬ lp z) : fd (z + 1) = fd z + 365 := by unfold lp at h; unfold fd; omega
theorem fd_mono {x y : Int} (h : x ≤ y) : fd x ≤ fd y := by unfold fd; omega
theorem fd_400 (q : Int) : fd (400 * q) = 146097 * q := by unfold fd; omega
