-- like bi_rep_1
theorem bi_rep_1 (S : SX) : ∃ b, fX0_isRepeated S (1 : Int32) = bi b := by
  rw [rep_1]
  split
  · exact ⟨false, rfl⟩
  · exact ⟨true, rfl⟩

