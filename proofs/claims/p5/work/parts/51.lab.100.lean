-- act_plusDays 0: theorem act_plusDays {S : SX} {T : SM} {n : Int64} {p0 p1 c9 : Int32} {n9 : Int64} {S9 : SX} (hR : Rel S T) (h
theorem lab100_0_act_plusDays {S : SX} {T : SM} {n : Int64} {p0 p1 c9 : Int32} {n9 : Int64} {S9 : SX} (hR : Rel S T) (h9 : H_plusDays S n p0 p1 c9 n9 S9) : Rel S9 (gX2_plusDays T p0 p1).2 ∧ (fX2_thrown (gX2_plusDays T p0 p1).2 = c9 ∧ (c9 = 0 → n9 = ((gX2_plusDays T p0 p1).1).toInt64)) := by
  sorry

