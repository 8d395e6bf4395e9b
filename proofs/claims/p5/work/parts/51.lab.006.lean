-- like rep_1
theorem rep_1 (S : SX) : fX0_isRepeated S (1 : Int32) = (if ((0 : Int32) ||| (fX0_isSameLine S 1 0)) = 0 then (0 : Int32) else (1 : Int32)) := by
  obtain ⟨b0, h0⟩ := bi_same S 1 0
  obtain ⟨b1, h1⟩ := bi_same S 1 1
  obtain ⟨b2, h2⟩ := bi_same S 1 2
  obtain ⟨b3, h3⟩ := bi_same S 1 3
  obtain ⟨b4, h4⟩ := bi_same S 1 4
  obtain ⟨b5, h5⟩ := bi_same S 1 5
  have e : fX0_isRepeated S (1 : Int32) = rF 1 (fX0_isSameLine S 1 0) (fX0_isSameLine S 1 1) (fX0_isSameLine S 1 2) (fX0_isSameLine S 1 3) (fX0_isSameLine S 1 4) (fX0_isSameLine S 1 5) := rfl
  rw [e, h0, h1, h2, h3, h4, h5]
  exact rF_1 b0 b1 b2 b3 b4 b5

