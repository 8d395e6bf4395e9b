theorem xsI {x c : Int32} (hc : 0 ≤ c.toInt) : 0 ≤ (x ^^^ c) ↔ 0 ≤ x.toInt := by
  have h : ∀ x : Int32, 0 ≤ x.toInt ↔ x.toBitVec.msb = false := fun x => by
    rw [BitVec.msb_eq_toInt]
    show 0 ≤ x.toBitVec.toInt ↔ _
    simp
  rw [Int32.le_iff_toInt_le, show (0 : Int32).toInt = 0 from by decide, h, h, Int32.toBitVec_xor, BitVec.msb_xor, (h c).mp hc]
  simp
