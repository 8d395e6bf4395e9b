theorem ylen_fd (y : Int32) : (fX0_yearLength y).toInt = fd (y.toInt + 1) - fd y.toInt := by
  unfold fX0_yearLength
  rcases leap0 y with ⟨h, e⟩ | ⟨h, e⟩
  · rw [e, if_neg (by decide), fd_leap h]; show (366 : Int) = _; omega
  · rw [e, if_pos rfl, fd_plain h]; show (365 : Int) = _; omega
