/-- the reference's years -/
theorem dY_spec {D : Int64} (h1 : -4371587 ≤ D.toInt) (h2 : D.toInt ≤ 2932896) : dYok (fuelY D) (dR0 D) (dY0 D) ∧ fX2_dy D = fX0_yearOf D ∧ (dR1 D).toInt = D.toInt + 719528 - fd (fX0_yearOf D).toInt := by
  have l1 : (719528 : Int64).toInt = 719528 := by decide
  have l2 : (400 : Int64).toInt = 400 := by decide
  have l3 : (146097 : Int64).toInt = 146097 := by decide
  have e1 := aL (x := D) rfl l1 (by omega)
  have e2 := fl2 e1 l3 (by decide)
  have e3 := mL l2 e2 (by omega)
  have e4 : (dY0 D).toInt = 400 * ((D.toInt + 719528) / 146097) := by
    unfold dY0
    rw [ahead_1970]
    exact oI e3 (by omega)
  have e5 : (dR0 D).toInt = D.toInt + 719528 - 146097 * ((D.toInt + 719528) / 146097) := by
    have f := ahead_fd (oL (oI e3 (by omega))) (by omega)
    unfold dR0
    rw [ahead_1970]
    rw [fd_400] at f
    exact sL e1 f (by omega)
  have key := dYl_spec (fuelY D) (dR0 D) (dY0 D) (by rw [e5]; omega) (by rw [e5]; omega) (by rw [e4]; omega) (by rw [e4, fuelY_eq]; omega) (by
    rw [e5, e4, fuelY_eq, fd_400]
    have : fd (400 * ((D.toInt + 719528) / 146097 + 1)) ≤ fd (400 * ((D.toInt + 719528) / 146097) + (401 : Nat)) := fd_mono (by omega)
    rw [fd_400] at this
    omega)
  have hy := yearOf_spec h1 h2
  have q1 : dR1 D = (dYl (fuelY D) (dR0 D) (dY0 D)).1 := rfl
  have q2 : fX2_dy D = (dYl (fuelY D) (dR0 D) (dY0 D)).2 := rfl
  rw [q1, q2]
  rw [e5, e4, fd_400] at key
  clear q1 q2 e5 e4 e3 e2 e1
  generalize dYl (fuelY D) (dR0 D) (dY0 D) = A at key ⊢
  generalize fX0_yearOf D = Y at hy ⊢
  generalize dYok (fuelY D) (dR0 D) (dY0 D) = Z at key ⊢
  generalize D.toInt = z at *
  obtain ⟨k2, k3, k4, k5⟩ := key
  have k9 : A.2.toInt = Y.toInt := fd_one (n := z + 719528) (by omega) (by omega) hy.2.1 hy.2.2
  exact ⟨k2, Int32.toInt_inj.mp k9, by rw [← k9]; omega⟩
