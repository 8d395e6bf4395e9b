-- like bi_same
theorem bi_same (S : SX) (i j : Int32) : ∃ b, fX0_isSameLine S i j = bi b := (same_01 S i j).elim (fun h => ⟨false, h⟩) (fun h => ⟨true, h⟩)

