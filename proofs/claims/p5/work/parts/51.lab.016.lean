-- like bi_rep_4
theorem bi_rep_4 (S : SX) : ∃ b, fX0_isRepeated S (4 : Int32) = bi b := by
  rw [rep_4]
  split
  · exact ⟨false, rfl⟩
  · exact ⟨true, rfl⟩

