-- like rF
def rF (p0 s0 s1 s2 s3 s4 s5 : Int32) : Int32 := if p0 ≤ (0 : Int32) then (0 : Int32) else if s0 = 0 then (if p0 ≤ (1 : Int32) then (0 : Int32) else if s1 = 0 then (if p0 ≤ (2 : Int32) then (0 : Int32) else if s2 = 0 then (if p0 ≤ (3 : Int32) then (0 : Int32) else if s3 = 0 then (if p0 ≤ (4 : Int32) then (0 : Int32) else if s4 = 0 then (if p0 ≤ (5 : Int32) then (0 : Int32) else if s5 = 0 then (0 : Int32) else (1 : Int32)) else (1 : Int32)) else (1 : Int32)) else (1 : Int32)) else (1 : Int32)) else (1 : Int32)

