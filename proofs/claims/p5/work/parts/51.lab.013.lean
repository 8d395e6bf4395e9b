-- like bi_rep_3
theorem bi_rep_3 (S : SX) : ∃ b, fX0_isRepeated S (3 : Int32) = bi b := by
  rw [rep_3]
  split
  · exact ⟨false, rfl⟩
  · exact ⟨true, rfl⟩

