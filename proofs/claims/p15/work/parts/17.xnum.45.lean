theorem okD_of {y : Int32} {j : Nat} (h : (j : Int) < fd (y.toInt + 1) - fd y.toInt) : okD y j = true := by
  rcases leap0 y with ⟨q, e⟩ | ⟨q, e⟩
  · rw [okD_c (z := 2000) (by rw [e]; decide)]
    rw [fd_leap q] at h
    exact okD_leap j (by omega)
  · rw [okD_c (z := 2001) (by rw [e]; decide)]
    rw [fd_plain q] at h
    exact okD_plain j (by omega)
