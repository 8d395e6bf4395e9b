-- like rF_4
theorem rF_4 : ∀ b0 b1 b2 b3 b4 b5 : Bool, rF 4 (bi b0) (bi b1) (bi b2) (bi b3) (bi b4) (bi b5) = (if (((((0 : Int32) ||| (bi b0)) ||| (bi b1)) ||| (bi b2)) ||| (bi b3)) = 0 then (0 : Int32) else (1 : Int32)) := by decide +kernel

