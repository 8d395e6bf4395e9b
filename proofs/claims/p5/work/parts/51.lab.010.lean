-- like bi_rep_2
theorem bi_rep_2 (S : SX) : ∃ b, fX0_isRepeated S (2 : Int32) = bi b := by
  rw [rep_2]
  split
  · exact ⟨false, rfl⟩
  · exact ⟨true, rfl⟩

