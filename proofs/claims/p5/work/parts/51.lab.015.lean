-- like rep_4
theorem rep_4 (S : SX) : fX0_isRepeated S (4 : Int32) = (if (((((0 : Int32) ||| (fX0_isSameLine S 4 0)) ||| (fX0_isSameLine S 4 1)) ||| (fX0_isSameLine S 4 2)) ||| (fX0_isSameLine S 4 3)) = 0 then (0 : Int32) else (1 : Int32)) := by
  obtain ⟨b0, h0⟩ := bi_same S 4 0
  obtain ⟨b1, h1⟩ := bi_same S 4 1
  obtain ⟨b2, h2⟩ := bi_same S 4 2
  obtain ⟨b3, h3⟩ := bi_same S 4 3
  obtain ⟨b4, h4⟩ := bi_same S 4 4
  obtain ⟨b5, h5⟩ := bi_same S 4 5
  have e : fX0_isRepeated S (4 : Int32) = rF 4 (fX0_isSameLine S 4 0) (fX0_isSameLine S 4 1) (fX0_isSameLine S 4 2) (fX0_isSameLine S 4 3) (fX0_isSameLine S 4 4) (fX0_isSameLine S 4 5) := rfl
  rw [e, h0, h1, h2, h3, h4, h5]
  exact rF_4 b0 b1 b2 b3 b4 b5

