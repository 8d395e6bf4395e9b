theorem first_1 {y : Int32} (hy : YR y) : fX2_dayOf y (1 : Int32) (1 : Int32) = fX0_firstDayOf y := by
  unfold YR at hy
  have h1 : (1 : Int32).toInt = 1 := by decide
  have hm : MN (1 : Int32) := by unfold MN; rw [h1]; decide
  have ha : (fX0_daysAhead y (1 : Int32)).toInt = 0 := by
    have hl : fX0_isLeapYear y = 1 ∨ fX0_isLeapYear y = 0 := by rcases leap0 y with ⟨-, e⟩ | ⟨-, e⟩ <;> simp [e]
    rcases hl with hl | hl <;> unfold fX0_daysAhead <;> rw [hl] <;> decide
  rw [dayOf_eq (by omega) hm (by rw [h1]; decide)]
  refine eqL (dayOf_fd (by omega) hm (by rw [h1]; decide)) ?_
  rw [first_fd (by omega), ha, h1]
  omega
theorem mu_int {u : Int32} (h : 9 ≤ u.toInt ∧ u.toInt ≤ 13) : ∃ z : Int, (fX0_monthsOfUnit u).toInt = z ∧ (fX2_monthsOf u).toInt64 = fX0_monthsOfUnit u ∧ 0 ≤ z ∧ z ≤ 12000 := by
  rcases en13 h with rfl | rfl | rfl | rfl | rfl
  · exact ⟨1, by decide +kernel, by decide +kernel, by decide, by decide⟩
  · exact ⟨12, by decide +kernel, by decide +kernel, by decide, by decide⟩
  · exact ⟨120, by decide +kernel, by decide +kernel, by decide, by decide⟩
  · exact ⟨1200, by decide +kernel, by decide +kernel, by decide, by decide⟩
  · exact ⟨12000, by decide +kernel, by decide +kernel, by decide, by decide⟩
theorem mu_c {a z : Int} (h : -100000 ≤ a ∧ a ≤ 100000) (g : 0 ≤ z ∧ z ≤ 12000) : -2000000000000 ≤ a * z ∧ a * z ≤ 2000000000000 := by
  have h1 := Int.mul_le_mul_of_nonneg_right h.1 g.1
  have h2 := Int.mul_le_mul_of_nonneg_right h.2 g.1
  omega
theorem mu_b {a z : Int} (h : -100000 ≤ a ∧ a ≤ 100000) (g : 0 ≤ z ∧ z ≤ 12000) : -9223372036854775808 ≤ a * z ∧ a * z < 9223372036854775808 := by
  have := mu_c h g
  omega
/-- a moment's parts give the moment again -/
theorem parts_1 {S : SX} (hI : Inv S) {i : Int32} (hi : vp_in i 6) : fX0_isItsParts S i = 1 := by
  have hN := hI.N hi
  have r1 := hour_int hN
  have r2 := minute_int hN
  have r3 := second_int hN
  have r4 := nano_int hN
  have e1 : fX0_dayOf (xy S i.toNatClampNeg) (xm S i.toNatClampNeg) (xd S i.toNatClampNeg) = xD S i.toNatClampNeg := (hI.D hi).symm
  have e2 : fX0_timeOf (fX0_hourOf (xN S i.toNatClampNeg)) (fX0_minuteOf (xN S i.toNatClampNeg)) (fX0_secondOf (xN S i.toNatClampNeg)) (fX0_nanoOfSecond (xN S i.toNatClampNeg)) = xN S i.toNatClampNeg := by
    unfold TV at hN
    refine eqL (timeOf_int (by rw [r1]; omega) (by rw [r2]; omega) (by rw [r3]; omega) (by rw [r4]; omega)) ?_
    rw [r1, r2, r3, r4]
    omega
  unfold fX0_isItsParts
  rw [e1, e2, if_pos (lg_cmp0.mpr rfl), if_pos (lg_cmp0.mpr rfl)]
theorem date_1 {S : SX} (hI : Inv S) {i : Int32} (hi : vp_in i 6) : fX0_isItsDateAndTime S i = 1 := by
  have hN := hI.N hi
  have hv := hI.at hi
  have r4 := nano_int hN
  have hd := hv.d31
  have hy := hv.1
  unfold YR at hy
  have ha := ahead_rng (y := xy S i.toNatClampNeg) hv.2.1
  have e1 : (((fX0_firstDayOf (xy S i.toNatClampNeg)) + ((fX0_yearDay S i).toInt64)) - (1 : Int64)) = xD S i.toNatClampNeg := by
    rw [hI.D hi]
    have f1 := first_fd (y := xy S i.toNatClampNeg) (by omega)
    have f2 := aI (x := fX0_daysAhead (xy S i.toNatClampNeg) (xm S i.toNatClampNeg)) (y := xd S i.toNatClampNeg) rfl rfl (by omega)
    have f3 : -5000000 < fd (xy S i.toNatClampNeg).toInt ∧ fd (xy S i.toNatClampNeg).toInt < 5000000 := by unfold fd; omega
    refine eqL (sL (aL f1 (oL f2) (by omega)) (show (1 : Int64).toInt = 1 from by decide) (by omega)) ?_
    rw [dayOf_fd (by omega) hv.2.1 (by omega)]
    omega
  have e2 : ((((xN S i.toNatClampNeg) / (1000000000 : Int64)) * (1000000000 : Int64)) + ((fX0_nanoOfSecond (xN S i.toNatClampNeg)).toInt64)) = xN S i.toNatClampNeg := by
    unfold TV at hN
    refine eqL (aL (mL (dL (x := xN S i.toNatClampNeg) rfl l1e9 hN.1 (by decide)) l1e9 (by omega)) (oL r4) (by omega)) ?_
    omega
  unfold fX0_isItsDateAndTime
  rw [e1, e2, if_pos (lg_cmp0.mpr rfl), if_pos (lg_cmp0.mpr rfl)]
