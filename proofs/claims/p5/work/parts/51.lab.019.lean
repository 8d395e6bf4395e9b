-- like bi_rep_5
theorem bi_rep_5 (S : SX) : ∃ b, fX0_isRepeated S (5 : Int32) = bi b := by
  rw [rep_5]
  split
  · exact ⟨false, rfl⟩
  · exact ⟨true, rfl⟩

