-- like rep_3
theorem rep_3 (S : SX) : fX0_isRepeated S (3 : Int32) = (if ((((0 : Int32) ||| (fX0_isSameLine S 3 0)) ||| (fX0_isSameLine S 3 1)) ||| (fX0_isSameLine S 3 2)) = 0 then (0 : Int32) else (1 : Int32)) := by
  obtain ⟨b0, h0⟩ := bi_same S 3 0
  obtain ⟨b1, h1⟩ := bi_same S 3 1
  obtain ⟨b2, h2⟩ := bi_same S 3 2
  obtain ⟨b3, h3⟩ := bi_same S 3 3
  obtain ⟨b4, h4⟩ := bi_same S 3 4
  obtain ⟨b5, h5⟩ := bi_same S 3 5
  have e : fX0_isRepeated S (3 : Int32) = rF 3 (fX0_isSameLine S 3 0) (fX0_isSameLine S 3 1) (fX0_isSameLine S 3 2) (fX0_isSameLine S 3 3) (fX0_isSameLine S 3 4) (fX0_isSameLine S 3 5) := rfl
  rw [e, h0, h1, h2, h3, h4, h5]
  exact rF_3 b0 b1 b2 b3 b4 b5

