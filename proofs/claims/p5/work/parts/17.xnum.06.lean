/-- the reference's years -/
theorem dY_spec {D : Int64} (h1 : -4371587 ≤ D.toInt) (h2 : D.toInt ≤ 2932896) : dYok (fuelY D) (dR0 D) (dY0 D) ∧ fX2_dy D = fX0_yearOf D ∧ (dR1 D).toInt = D.toInt + 719528 - fd (fX0_yearOf D).toInt := by
  have l1 : (719528 : Int64).toInt = 719528 := by decide
  have l2 : (400 : Int64).toInt = 400 := by decide
  have l3 : (146097 : Int64).toInt = 146097 := by decide
  have e1 := aL (x := D) rfl l1 (by omega)
  have e2 := fl2 e1 l3 (by decide)
  have e3 := mL l2 e2 (by omega)
  have e4 : (dY0 D).toInt = 400 * ((D.toInt + 719528) / 146097) := by
    unfold dY0
    rw [ahead_1970]
    exact oI e3 (by omega)
  have e5 : (dR0 D).toInt = D.toInt + 719528 - 146097 * ((D.toInt + 719528) / 146097) := by
    have f := ahead_fd (oL (oI e3 (by omega))) (by omega)
    unfold dR0
    rw [ahead_1970]
    rw [fd_400] at f
    exact sL e1 f (by omega)
  have key := dYl_spec (fuelY D) (dR0 D) (dY0 D) (by rw [e5]; omega) (by rw [e5]; omega) (by rw [e4]; omega) (by rw [e4, fuelY_eq]; omega) (by
    rw [e5, e4, fuelY_eq, fd_400]
    have : fd (400 * ((D.toInt + 719528) / 146097 + 1)) ≤ fd (400 * ((D.toInt + 719528) / 146097) + (401 : Nat)) := fd_mono (by omega)
    rw [fd_400] at this
    omega)
  have hy := yearOf_spec h1 h2
  have q1 : dR1 D = (dYl (fuelY D) (dR0 D) (dY0 D)).1 := rfl
  have q2 : fX2_dy D = (dYl (fuelY D) (dR0 D) (dY0 D)).2 := rfl
  rw [q1, q2]
  rw [e5, e4, fd_400] at key
  clear q1 q2 e5 e4 e3 e2 e1
  generalize dYl (fuelY D) (dR0 D) (dY0 D) = A at key ⊢
  generalize fX0_yearOf D = Y at hy ⊢
  generalize dYok (fuelY D) (dR0 D) (dY0 D) = Z at key ⊢
  generalize D.toInt = z at *
  obtain ⟨k2, k3, k4, k5⟩ := key
  have k9 : A.2.toInt = Y.toInt := fd_one (n := z + 719528) (by omega) (by omega) hy.2.1 hy.2.2
  exact ⟨k2, Int32.toInt_inj.mp k9, by rw [← k9]; omega⟩
def dXd (D : Int64) : Int32 := (((D - (fX0_firstDayOf (fX0_yearOf D))).toInt32) + (1 : Int32))
def dXm (D : Int64) : Int32 := fX0_monthOf (fX0_yearOf D) (dXd D)
def dXq (D : Int64) : Int32 := dXd D - fX0_daysAhead (fX0_yearOf D) (dXm D)
theorem date_spec {D : Int64} (h1 : -4371587 ≤ D.toInt) (h2 : D.toInt ≤ 2932896) : dMok (fuelM D) (dR1 D) (fX2_dy D) 1 ∧ fX2_dm D = dXm D ∧ ((dR2 D).toInt32 + 1) = dXq D ∧ MN (dXm D) ∧ (1 ≤ (dXq D).toInt ∧ dXq D ≤ fX0_monthLength (fX0_yearOf D) (dXm D)) ∧ fX0_dayOf (fX0_yearOf D) (dXm D) (dXq D) = D := by
  obtain ⟨k1, k2, k3⟩ := dY_spec h1 h2
  obtain ⟨y1, y2, y3⟩ := yearOf_spec h1 h2
  have o1 : (1 : Int32).toInt = 1 := by decide
  have hf := first_fd (y := fX0_yearOf D) (by unfold YR at y1; omega)
  have hb : 0 ≤ (dR1 D).toInt ∧ (dR1 D).toInt < fd ((fX0_yearOf D).toInt + 1) - fd (fX0_yearOf D).toInt ∧ fd ((fX0_yearOf D).toInt + 1) - fd (fX0_yearOf D).toInt ≤ 366 := by
    refine ⟨by omega, by omega, ?_⟩
    by_cases q : lp (fX0_yearOf D).toInt
    · rw [fd_leap q]; omega
    · rw [fd_plain q]; omega
  obtain ⟨j, hj⟩ : ∃ j : Nat, (dR1 D).toInt = (j : Int) := ⟨(dR1 D).toInt.toNat, by omega⟩
  have hjl : j < 366 := by omega
  have er : dR1 D = Int64.ofNat j := by
    refine eqL hj ?_
    rw [← Int64.ofInt_eq_ofNat, Int64.toInt_ofInt_of_le (by omega) (by omega)]
  have ed : dXd D = nI (j + 1) := by
    refine eqI (a := (j : Int) + 1) ?_ (by rw [nI_toInt (by omega)]; omega)
    have e1 := sL (x := D) rfl hf (by unfold fd; unfold YR at y1; omega)
    unfold dXd
    exact (aI (oI e1 (by omega)) o1 (by omega)).trans (by omega)
  have ok := okD_of (y := fX0_yearOf D) (j := j) (by omega)
  unfold okD at ok
  simp only [Bool.and_eq_true, decide_eq_true_eq] at ok
  obtain ⟨⟨⟨⟨⟨⟨a1, a2⟩, a3⟩, a4⟩, a5⟩, a6⟩, a7⟩ := ok
  have em : dXm D = fX0_monthOf (fX0_yearOf D) (nI (j + 1)) := by unfold dXm; rw [ed]
  have eq : dXq D = nI (j + 1) - fX0_daysAhead (fX0_yearOf D) (fX0_monthOf (fX0_yearOf D) (nI (j + 1))) := by unfold dXq; rw [ed, em]
  have hM : MN (dXm D) := by
    rw [em]
    have b1 := Int32.le_iff_toInt_le.mp a4
    have b2 := Int32.le_iff_toInt_le.mp a5
    rw [o1] at b1
    rw [show (12 : Int32).toInt = 12 from by decide] at b2
    exact ⟨b1, b2⟩
  have hq1 : 1 ≤ (dXq D).toInt := by
    have b1 := Int32.le_iff_toInt_le.mp a6
    rw [o1] at b1
    rw [eq]; exact b1
  have hq2 : dXq D ≤ fX0_monthLength (fX0_yearOf D) (dXm D) := by rw [eq, em]; exact a7
  have hlen := len_rng (y := fX0_yearOf D) (m := dXm D)
  have hq3 := Int32.le_iff_toInt_le.mp hq2
  refine ⟨by rw [fuelM_eq, k2, er]; exact dMb_ok _ _ _ _ a1, ?_, ?_, hM, ⟨hq1, hq2⟩, ?_⟩
  · rw [em, ← a2]
    unfold fX2_dm
    rw [fuelM_eq, k2, er]
  · rw [eq, ← a3]
    unfold dR2
    rw [fuelM_eq, k2, er]
  · have ha := ahead_rng (y := fX0_yearOf D) hM
    refine eqL (dayOf_fd (by unfold YR at y1; omega) hM (by omega)) ?_
    have : (dXq D).toInt = (j : Int) + 1 - (fX0_daysAhead (fX0_yearOf D) (dXm D)).toInt := by
      rw [eq, em]
      rw [em] at ha
      exact sI (by rw [nI_toInt (by omega)]; omega) rfl (by omega)
    omega
theorem dOK {p0 : Int64} (h1 : ¬ lg_cmp p0 (fX2_dayOf (-9999) 1 1) < 0) (h2 : lg_cmp p0 (fX2_dayOf 9999 12 31) ≤ 0) : dYok (fuelY p0) (dR0 p0) (dY0 p0) ∧ dMok (fuelM p0) (dR1 p0) (fX2_dy p0) 1 ∧ fX2_dm p0 ≤ 12 := by
  have e1 : fX2_dayOf (-9999) 1 1 = -4371587 := by decide +kernel
  have e2 : fX2_dayOf 9999 12 31 = 2932896 := by decide +kernel
  rw [e1] at h1
  rw [e2] at h2
  have g1 : -4371587 ≤ p0.toInt := by
    have : ¬ p0.toInt < (-4371587 : Int64).toInt := fun z => h1 (lgc_lt.mpr z)
    rw [show (-4371587 : Int64).toInt = -4371587 from by decide] at this
    omega
  have g2 : p0.toInt ≤ 2932896 := by
    have := lgc_le.mp h2
    rw [show (2932896 : Int64).toInt = 2932896 from by decide] at this
    exact this
  obtain ⟨k1, k2, k3⟩ := dY_spec g1 g2
  obtain ⟨m1, m2, m3, m4, m5, m6⟩ := date_spec g1 g2
  refine ⟨k1, m1, ?_⟩
  rw [m2, Int32.le_iff_toInt_le, show (12 : Int32).toInt = 12 from by decide]
  exact m4.2
