theorem leap2 (y : Int32) : (lp y.toInt ∧ fX2_isLeapYear y = 1) ∨ (¬ lp y.toInt ∧ fX2_isLeapYear y = 0) := by
  have m4 := md_0 (y := y) (c := 4) (k := 4) (by decide) (by decide)
  have m1 := md_0 (y := y) (c := 100) (k := 100) (by decide) (by decide)
  have m0 := md_0 (y := y) (c := 400) (k := 400) (by decide) (by decide)
  unfold fX2_isLeapYear lp
  by_cases h0 : (y - y / (400 : Int32) * (400 : Int32)) = 0
  · rw [if_pos h0]
    have g0 := m0.mp h0
    exact Or.inl ⟨⟨by omega, fun _ => g0⟩, rfl⟩
  · rw [if_neg h0]
    have g0 : ¬ y.toInt % 400 = 0 := fun z => h0 (m0.mpr z)
    by_cases h4 : (y - y / (4 : Int32) * (4 : Int32)) = 0
    · rw [if_pos h4]
      have g4 := m4.mp h4
      by_cases h1 : (y - y / (100 : Int32) * (100 : Int32)) = 0
      · rw [if_pos h1]; exact Or.inr ⟨fun z => g0 (z.2 (m1.mp h1)), rfl⟩
      · rw [if_neg h1]; exact Or.inl ⟨⟨g4, fun z => absurd (m1.mpr z) h1⟩, rfl⟩
    · rw [if_neg h4]; exact Or.inr ⟨fun z => h4 (m4.mpr z.1), rfl⟩
