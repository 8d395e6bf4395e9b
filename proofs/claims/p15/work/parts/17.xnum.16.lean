theorem xsL {x c : Int64} (hc : 0 ≤ c.toInt) : 0 ≤ lg_cmp (x ^^^ c) (0 : Int64) ↔ 0 ≤ x.toInt := by
  have h : ∀ x : Int64, 0 ≤ x.toInt ↔ x.toBitVec.msb = false := fun x => by
    rw [BitVec.msb_eq_toInt]
    show 0 ≤ x.toBitVec.toInt ↔ _
    simp
  rw [lgc_ge, show (0 : Int64).toInt = 0 from by decide, h, h, Int64.toBitVec_xor, BitVec.msb_xor, (h c).mp hc]
  simp
