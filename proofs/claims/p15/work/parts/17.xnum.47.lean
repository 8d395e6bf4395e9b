theorem fd_lo : fd (-9999) = -3652059 := by decide
theorem fd_hi : fd 10000 = 3652425 := by decide
