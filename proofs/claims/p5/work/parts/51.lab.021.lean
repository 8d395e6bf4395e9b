-- like count_sum
theorem count_sum (S : SX) : ((((((0 : Int32) + (fX0_isRepeated S 1)) + (fX0_isRepeated S 2)) + (fX0_isRepeated S 3)) + (fX0_isRepeated S 4)) + (fX0_isRepeated S 5)) = fX0_countRepeated S := by
  obtain ⟨b1, h1⟩ := bi_rep_1 S
  obtain ⟨b2, h2⟩ := bi_rep_2 S
  obtain ⟨b3, h3⟩ := bi_rep_3 S
  obtain ⟨b4, h4⟩ := bi_rep_4 S
  obtain ⟨b5, h5⟩ := bi_rep_5 S
  have e : fX0_countRepeated S = cF (fX0_isRepeated S 1) (fX0_isRepeated S 2) (fX0_isRepeated S 3) (fX0_isRepeated S 4) (fX0_isRepeated S 5) := rfl
  rw [e, h1, h2, h3, h4, h5]
  exact cF_num b1 b2 b3 b4 b5

