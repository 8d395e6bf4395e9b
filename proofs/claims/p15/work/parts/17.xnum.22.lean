theorem fd_one {n x y : Int} (h1 : fd x ≤ n) (h2 : n < fd (x + 1)) (h3 : fd y ≤ n) (h4 : n < fd (y + 1)) : x = y := by
  rcases Int.lt_trichotomy x y with q | q | q
  · have := fd_mono (x := x + 1) (y := y) (by omega); omega
  · exact q
  · have := fd_mono (x := y + 1) (y := x) (by omega); omega
