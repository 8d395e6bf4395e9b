-- like cF_num
theorem cF_num : ∀ b1 b2 b3 b4 b5 : Bool, ((((((0 : Int32) + (bi b1)) + (bi b2)) + (bi b3)) + (bi b4)) + (bi b5)) = cF (bi b1) (bi b2) (bi b3) (bi b4) (bi b5) := by decide +kernel

