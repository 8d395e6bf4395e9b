theorem date_spec {D : Int64} (h1 : -4371587 ≤ D.toInt) (h2 : D.toInt ≤ 2932896) : dMok (fuelM D) (dR1 D) (fX2_dy D) 1 ∧ fX2_dm D = dXm D ∧ ((dR2 D).toInt32 + 1) = dXq D ∧ MN (dXm D) ∧ (1 ≤ (dXq D).toInt ∧ dXq D ≤ fX0_monthLength (fX0_yearOf D) (dXm D)) ∧ fX0_dayOf (fX0_yearOf D) (dXm D) (dXq D) = D := by
  obtain ⟨k1, k2, k3⟩ := dY_spec h1 h2
  obtain ⟨y1, y2, y3⟩ := yearOf_spec h1 h2
  have o1 : (1 : Int32).toInt = 1 := by decide
  have hf := first_fd (y := fX0_yearOf D) (by unfold YR at y1; omega)
  have hb : 0 ≤ (dR1 D).toInt ∧ (dR1 D).toInt < fd ((fX0_yearOf D).toInt + 1) - fd (fX0_yearOf D).toInt ∧ fd ((fX0_yearOf D).toInt + 1) - fd (fX0_yearOf D).toInt ≤ 366 := by
    refine ⟨by omega, by omega, ?_⟩
    by_cases q : lp (fX0_yearOf D).toInt
    · rw [fd_leap q]; omega
    · rw [fd_plain q]; omega
  obtain ⟨j, hj⟩ : ∃ j : Nat, (dR1 D).toInt = (j : Int) := ⟨(dR1 D).toInt.toNat, by omega⟩
  have hjl : j < 366 := by omega
  have er : dR1 D = Int64.ofNat j := by
    refine eqL hj ?_
    rw [← Int64.ofInt_eq_ofNat, Int64.toInt_ofInt_of_le (by omega) (by omega)]
  have ed : dXd D = nI (j + 1) := by
    refine eqI (a := (j : Int) + 1) ?_ (by rw [nI_toInt (by omega)]; omega)
    have e1 := sL (x := D) rfl hf (by unfold fd; unfold YR at y1; omega)
    unfold dXd
    exact (aI (oI e1 (by omega)) o1 (by omega)).trans (by omega)
  have ok := okD_of (y := fX0_yearOf D) (j := j) (by omega)
  unfold okD at ok
  simp only [Bool.and_eq_true, decide_eq_true_eq] at ok
  obtain ⟨⟨⟨⟨⟨⟨a1, a2⟩, a3⟩, a4⟩, a5⟩, a6⟩, a7⟩ := ok
  have em : dXm D = fX0_monthOf (fX0_yearOf D) (nI (j + 1)) := by unfold dXm; rw [ed]
  have eq : dXq D = nI (j + 1) - fX0_daysAhead (fX0_yearOf D) (fX0_monthOf (fX0_yearOf D) (nI (j + 1))) := by unfold dXq; rw [ed, em]
  have hM : MN (dXm D) := by
    rw [em]
    have b1 := Int32.le_iff_toInt_le.mp a4
    have b2 := Int32.le_iff_toInt_le.mp a5
    rw [o1] at b1
    rw [show (12 : Int32).toInt = 12 from by decide] at b2
    exact ⟨b1, b2⟩
  have hq1 : 1 ≤ (dXq D).toInt := by
    have b1 := Int32.le_iff_toInt_le.mp a6
    rw [o1] at b1
    rw [eq]; exact b1
  have hq2 : dXq D ≤ fX0_monthLength (fX0_yearOf D) (dXm D) := by rw [eq, em]; exact a7
  have hlen := len_rng (y := fX0_yearOf D) (m := dXm D)
  have hq3 := Int32.le_iff_toInt_le.mp hq2
  refine ⟨by rw [fuelM_eq, k2, er]; exact dMb_ok _ _ _ _ a1, ?_, ?_, hM, ⟨hq1, hq2⟩, ?_⟩
  · rw [em, ← a2]
    unfold fX2_dm
    rw [fuelM_eq, k2, er]
  · rw [eq, ← a3]
    unfold dR2
    rw [fuelM_eq, k2, er]
  · have ha := ahead_rng (y := fX0_yearOf D) hM
    refine eqL (dayOf_fd (by unfold YR at y1; omega) hM (by omega)) ?_
    have : (dXq D).toInt = (j : Int) + 1 - (fX0_daysAhead (fX0_yearOf D) (dXm D)).toInt := by
      rw [eq, em]
      rw [em] at ha
      exact sI (by rw [nI_toInt (by omega)]; omega) rfl (by omega)
    omega
