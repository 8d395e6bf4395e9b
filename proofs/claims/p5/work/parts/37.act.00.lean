/-! the reference and the class, method by method (good arguments) -/
def GO (th : Int32) (A : Int32 × SM) (B : Int32 × SX) : Prop := A = (B.1, mkM th B.2) ∧ Inv B.2
theorem rg {lo hi v : Int32} {a b : Int} (h : ¬ v < lo ∧ v ≤ hi) (ha : lo.toInt = a) (hb : hi.toInt = b) : a ≤ v.toInt ∧ v.toInt ≤ b := by
  have h1 := Int32.le_iff_toInt_le.mp h.2
  have h2 := Int32.le_iff_toInt_le.mp (Int32.not_lt.mp h.1)
  rw [ha] at h2
  rw [hb] at h1
  exact ⟨h2, h1⟩
theorem en8 {u : Int32} (h : 0 ≤ u.toInt ∧ u.toInt ≤ 7) : u = 0 ∨ u = 1 ∨ u = 2 ∨ u = 3 ∨ u = 4 ∨ u = 5 ∨ u = 6 ∨ u = 7 := by
  obtain ⟨h1, h2⟩ := h
  have e : ∀ z : Int, u.toInt = z → u = Int32.ofInt z := fun z q => by rw [← q, Int32.ofInt_toInt]
  have c : u.toInt = 0 ∨ u.toInt = 1 ∨ u.toInt = 2 ∨ u.toInt = 3 ∨ u.toInt = 4 ∨ u.toInt = 5 ∨ u.toInt = 6 ∨ u.toInt = 7 := by omega
  rcases c with c | c | c | c | c | c | c | c <;> have e2 := e _ c <;> subst e2 <;> decide
theorem en13 {u : Int32} (h : 9 ≤ u.toInt ∧ u.toInt ≤ 13) : u = 9 ∨ u = 10 ∨ u = 11 ∨ u = 12 ∨ u = 13 := by
  obtain ⟨h1, h2⟩ := h
  have e : ∀ z : Int, u.toInt = z → u = Int32.ofInt z := fun z q => by rw [← q, Int32.ofInt_toInt]
  have c : u.toInt = 9 ∨ u.toInt = 10 ∨ u.toInt = 11 ∨ u.toInt = 12 ∨ u.toInt = 13 := by omega
  rcases c with c | c | c | c | c <;> have e2 := e _ c <;> subst e2 <;> decide
theorem un8 {u : Int32} (h : 0 ≤ u.toInt ∧ u.toInt ≤ 7) : ∃ Q P : Int, (fX0_nanosOfUnit u).toInt = Q ∧ fX2_nanosOf u = fX0_nanosOfUnit u ∧ 0 < Q ∧ 0 < P ∧ P * Q = 86400000000000 := by
  rcases en8 h with rfl | rfl | rfl | rfl | rfl | rfl | rfl | rfl
  · exact ⟨1, 86400000000000, by decide +kernel, by decide +kernel, by decide, by decide, by decide⟩
  · exact ⟨1000, 86400000000, by decide +kernel, by decide +kernel, by decide, by decide, by decide⟩
  · exact ⟨1000000, 86400000, by decide +kernel, by decide +kernel, by decide, by decide, by decide⟩
  · exact ⟨1000000000, 86400, by decide +kernel, by decide +kernel, by decide, by decide, by decide⟩
  · exact ⟨60000000000, 1440, by decide +kernel, by decide +kernel, by decide, by decide, by decide⟩
  · exact ⟨3600000000000, 24, by decide +kernel, by decide +kernel, by decide, by decide, by decide⟩
  · exact ⟨43200000000000, 2, by decide +kernel, by decide +kernel, by decide, by decide, by decide⟩
  · exact ⟨86400000000000, 1, by decide +kernel, by decide +kernel, by decide, by decide, by decide⟩
theorem quo {x y : Int64} {Q : Int} (h : y.toInt = Q) (hQ : 0 < Q) : fX0_quotient x y = x / y := by
  refine if_neg (fun z => ?_)
  have := lgc_eq.mp z
  rw [h, show (0 : Int64).toInt = 0 from by decide] at this
  omega
