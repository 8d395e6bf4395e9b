theorem leap2 (y : Int32) : (lp y.toInt ∧ fX2_isLeapYear y = 1) ∨ (¬ lp y.toInt ∧ fX2_isLeapYear y = 0) := by
  have m4 := md_0 (y := y) (c := 4) (k := 4) (by decide) (by decide)
  have m1 := md_0 (y := y) (c := 100) (k := 100) (by decide) (by decide)
  have m0 := md_0 (y := y) (c := 400) (k := 400) (by decide) (by decide)
  unfold fX2_isLeapYear lp
  by_cases h0 : (y - y / (400 : Int32) * (400 : Int32)) = 0
  · rw [if_pos h0]
    have g0 := m0.mp h0
    exact Or.inl ⟨⟨by omega, fun _ => g0⟩, rfl⟩
  · rw [if_neg h0]
    have g0 : ¬ y.toInt % 400 = 0 := fun z => h0 (m0.mpr z)
    by_cases h4 : (y - y / (4 : Int32) * (4 : Int32)) = 0
    · rw [if_pos h4]
      have g4 := m4.mp h4
      by_cases h1 : (y - y / (100 : Int32) * (100 : Int32)) = 0
      · rw [if_pos h1]; exact Or.inr ⟨fun z => g0 (z.2 (m1.mp h1)), rfl⟩
      · rw [if_neg h1]; exact Or.inl ⟨⟨g4, fun z => absurd (m1.mpr z) h1⟩, rfl⟩
    · rw [if_neg h4]; exact Or.inr ⟨fun z => h4 (m4.mpr z.1), rfl⟩
theorem leap_eq (y : Int32) : fX2_isLeapYear y = fX0_isLeapYear y := by
  rcases leap0 y with ⟨h, e⟩ | ⟨h, e⟩ <;> rcases leap2 y with ⟨g, f⟩ | ⟨g, f⟩
  · rw [e, f]
  · exact absurd h g
  · exact absurd g h
  · rw [e, f]
def MN (m : Int32) : Prop := 1 ≤ m.toInt ∧ m.toInt ≤ 12
def YR (y : Int32) : Prop := -9999 ≤ y.toInt ∧ y.toInt ≤ 9999
theorem mn_cases {m : Int32} (h : MN m) : m = 1 ∨ m = 2 ∨ m = 3 ∨ m = 4 ∨ m = 5 ∨ m = 6 ∨ m = 7 ∨ m = 8 ∨ m = 9 ∨ m = 10 ∨ m = 11 ∨ m = 12 := by
  obtain ⟨h1, h2⟩ := h
  have e : ∀ z : Int, m.toInt = z → m = Int32.ofInt z := fun z q => by rw [← q, Int32.ofInt_toInt]
  have c : m.toInt = 1 ∨ m.toInt = 2 ∨ m.toInt = 3 ∨ m.toInt = 4 ∨ m.toInt = 5 ∨ m.toInt = 6 ∨ m.toInt = 7 ∨ m.toInt = 8 ∨ m.toInt = 9 ∨ m.toInt = 10 ∨ m.toInt = 11 ∨ m.toInt = 12 := by omega
  rcases c with c | c | c | c | c | c | c | c | c | c | c | c <;> have e2 := e _ c <;> subst e2 <;> decide
theorem len_eq {y m : Int32} (h : MN m) : fX2_daysOf y m = fX0_monthLength y m := by
  rcases mn_cases h with rfl | rfl | rfl | rfl | rfl | rfl | rfl | rfl | rfl | rfl | rfl | rfl <;> unfold fX2_daysOf fX0_monthLength <;> try rfl
  rw [leap_eq]
  rfl
theorem len_rng {y m : Int32} : 28 ≤ (fX0_monthLength y m).toInt ∧ (fX0_monthLength y m).toInt ≤ 31 := by
  unfold fX0_monthLength
  repeat' split
  all_goals decide
theorem ylen_eq (y : Int32) : fX2_daysOf_ y = fX0_yearLength y := by
  unfold fX2_daysOf_ fX0_yearLength
  rw [leap_eq]
