theorem mn_cases {m : Int32} (h : MN m) : m = 1 ∨ m = 2 ∨ m = 3 ∨ m = 4 ∨ m = 5 ∨ m = 6 ∨ m = 7 ∨ m = 8 ∨ m = 9 ∨ m = 10 ∨ m = 11 ∨ m = 12 := by
  obtain ⟨h1, h2⟩ := h
  have e : ∀ z : Int, m.toInt = z → m = Int32.ofInt z := fun z q => by rw [← q, Int32.ofInt_toInt]
  have c : m.toInt = 1 ∨ m.toInt = 2 ∨ m.toInt = 3 ∨ m.toInt = 4 ∨ m.toInt = 5 ∨ m.toInt = 6 ∨ m.toInt = 7 ∨ m.toInt = 8 ∨ m.toInt = 9 ∨ m.toInt = 10 ∨ m.toInt = 11 ∨ m.toInt = 12 := by omega
  rcases c with c | c | c | c | c | c | c | c | c | c | c | c <;> have e2 := e _ c <;> subst e2 <;> decide
