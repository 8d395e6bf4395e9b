theorem dOK {p0 : Int64} (h1 : ¬ lg_cmp p0 (fX2_dayOf (-9999) 1 1) < 0) (h2 : lg_cmp p0 (fX2_dayOf 9999 12 31) ≤ 0) : dYok (fuelY p0) (dR0 p0) (dY0 p0) ∧ dMok (fuelM p0) (dR1 p0) (fX2_dy p0) 1 ∧ fX2_dm p0 ≤ 12 := by
  have e1 : fX2_dayOf (-9999) 1 1 = -4371587 := by decide +kernel
  have e2 : fX2_dayOf 9999 12 31 = 2932896 := by decide +kernel
  rw [e1] at h1
  rw [e2] at h2
  have g1 : -4371587 ≤ p0.toInt := by
    have : ¬ p0.toInt < (-4371587 : Int64).toInt := fun z => h1 (lgc_lt.mpr z)
    rw [show (-4371587 : Int64).toInt = -4371587 from by decide] at this
    omega
  have g2 : p0.toInt ≤ 2932896 := by
    have := lgc_le.mp h2
    rw [show (2932896 : Int64).toInt = 2932896 from by decide] at this
    exact this
  obtain ⟨k1, k2, k3⟩ := dY_spec g1 g2
  obtain ⟨m1, m2, m3, m4, m5, m6⟩ := date_spec g1 g2
  refine ⟨k1, m1, ?_⟩
  rw [m2, Int32.le_iff_toInt_le, show (12 : Int32).toInt = 12 from by decide]
  exact m4.2
