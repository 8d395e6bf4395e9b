/-! a day's date: both ways lead to the same -/
theorem dYl_spec : ∀ (n : Nat) (r : Int64) (y : Int32), 0 ≤ r.toInt → r.toInt < 4000000000 → -10500 ≤ y.toInt → y.toInt + n ≤ 10999 → r.toInt + fd y.toInt < fd (y.toInt + n) → dYok n r y ∧ 0 ≤ (dYl n r y).1.toInt ∧ (dYl n r y).1.toInt < fd ((dYl n r y).2.toInt + 1) - fd (dYl n r y).2.toInt ∧ (dYl n r y).1.toInt + fd (dYl n r y).2.toInt = r.toInt + fd y.toInt := by
  intro n
  induction n with
  | zero =>
    intro r y h1 h2 h3 h4 h5
    exfalso
    rw [show y.toInt + ((0 : Nat) : Int) = y.toInt by omega] at h5
    omega
  | succ n ih =>
    intro r y h1 h2 h3 h4 h5
    have hy : (fX2_daysOf_ y).toInt = fd (y.toInt + 1) - fd y.toInt := by rw [ylen_eq, ylen_fd]
    have hp : fd (y.toInt + 1) - fd y.toInt = 365 ∨ fd (y.toInt + 1) - fd y.toInt = 366 := by
      by_cases q : lp y.toInt
      · right; rw [fd_leap q]; omega
      · left; rw [fd_plain q]; omega
    by_cases hc : lg_cmp r (fX2_daysOf_ y).toInt64 < 0
    · have e : dYl (n + 1) r y = (r, y) := if_pos hc
      have h6 := lgc_lt.mp hc
      rw [oL hy] at h6
      rw [e]
      exact ⟨fun z => absurd hc z, h1, h6, rfl⟩
    · have e : dYl (n + 1) r y = dYl n (r - (fX2_daysOf_ y).toInt64) (y + 1) := if_neg hc
      have h6 : ¬ r.toInt < fd (y.toInt + 1) - fd y.toInt := fun z => hc (lgc_lt.mpr (by rw [oL hy]; exact z))
      have e1 : (r - (fX2_daysOf_ y).toInt64).toInt = r.toInt - (fd (y.toInt + 1) - fd y.toInt) := sL rfl (oL hy) (by omega)
      have e2 : (y + 1).toInt = y.toInt + 1 := aI rfl (show (1 : Int32).toInt = 1 from by decide) (by omega)
      have h7 := ih (r - (fX2_daysOf_ y).toInt64) (y + 1) (by rw [e1]; omega) (by rw [e1]; omega) (by rw [e2]; omega) (by rw [e2]; omega) (by rw [e1, e2, show y.toInt + 1 + (n : Int) = y.toInt + ((n + 1 : Nat) : Int) by omega]; omega)
      rw [e]
      refine ⟨fun _ => h7.1, h7.2.1, h7.2.2.1, ?_⟩
      rw [h7.2.2.2, e1, e2]
      omega
