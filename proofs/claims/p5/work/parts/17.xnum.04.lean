theorem ahead_fd {x : Int64} {z : Int} (hx : x.toInt = z) (h : -11000 ≤ z ∧ z ≤ 11000) : (fX2_ahead x).toInt = fd z := by
  unfold fX2_ahead fd
  have e1 := fl2 (aL hx (show (3 : Int64).toInt = 3 from by decide) (by omega)) (show (4 : Int64).toInt = 4 from by decide) (by decide)
  have e2 := fl2 (aL hx (show (99 : Int64).toInt = 99 from by decide) (by omega)) (show (100 : Int64).toInt = 100 from by decide) (by decide)
  have e3 := fl2 (aL hx (show (399 : Int64).toInt = 399 from by decide) (by omega)) (show (400 : Int64).toInt = 400 from by decide) (by decide)
  have e5 := mL (show (365 : Int64).toInt = 365 from by decide) hx (by omega)
  exact aL (sL (aL e5 e1 (by omega)) e2 (by omega)) e3 (by omega)
theorem ahead_1970 : fX2_ahead (1970 : Int64) = 719528 := by decide +kernel
theorem dayOf_fd {y m d : Int32} (hy : -11000 ≤ y.toInt ∧ y.toInt ≤ 11000) (hm : MN m) (hd : 0 ≤ d.toInt ∧ d.toInt ≤ 400) : (fX0_dayOf y m d).toInt = fd y.toInt - 719528 + (fX0_daysAhead y m).toInt + d.toInt - 1 := by
  have ha := ahead_rng (y := y) hm
  have hf : -5000000 < fd y.toInt ∧ fd y.toInt < 5000000 := by unfold fd; omega
  unfold fX0_dayOf
  exact sL (aL (aL (first_fd hy) (oL rfl) (by omega)) (oL rfl) (by omega)) (show (1 : Int64).toInt = 1 from by decide) (by omega)
theorem dayOf_eq {y m d : Int32} (hy : -11000 ≤ y.toInt ∧ y.toInt ≤ 11000) (hm : MN m) (hd : 0 ≤ d.toInt ∧ d.toInt ≤ 400) : fX2_dayOf y m d = fX0_dayOf y m d := by
  have ha := ahead_rng (y := y) hm
  have hf : -5000000 < fd y.toInt ∧ fd y.toInt < 5000000 := by unfold fd; omega
  refine eqL ?_ (dayOf_fd hy hm hd)
  unfold fX2_dayOf
  rw [ahead_1970, in_eq hm]
  have e1 := aI (x := fX0_daysAhead y m) (y := d) rfl rfl (by omega)
  rw [sL (aL (sL (ahead_fd (oL (x := y) rfl) hy) (show (719528 : Int64).toInt = 719528 from by decide) (by omega)) (oL e1) (by omega)) (show (1 : Int64).toInt = 1 from by decide) (by omega)]
  omega
theorem wk_eq {D : Int64} (h : -10000000 ≤ D.toInt ∧ D.toInt ≤ 10000000) : fX2_weekDay D = fX0_weekday D := by
  unfold fX2_weekDay fX0_weekday
  have e1 := aL (x := D) rfl (show (3 : Int64).toInt = 3 from by decide) (by omega)
  have e2 := fl2 e1 (show (7 : Int64).toInt = 7 from by decide) (by decide)
  have e3 := sL e1 (mL (show (7 : Int64).toInt = 7 from by decide) e2 (by omega)) (by omega)
  have e4 := fm64 e1 (show (7 : Int64).toInt = 7 from by decide) (by decide)
  have : (((D + 3) - (7 * fX2_floor (D + 3) 7)).toInt32) = (fJ9_floorMod_f86c9 (D + 3) 7).toInt32 := by
    refine eqI (oI e3 (by omega)) ?_
    rw [oI e4 (by omega)]
    omega
  rw [this]

/-! a day's date: both ways lead to the same -/
theorem dYl_spec : ∀ (n : Nat) (r : Int64) (y : Int32), 0 ≤ r.toInt → r.toInt < 4000000000 → -10500 ≤ y.toInt → y.toInt + n ≤ 10999 → r.toInt + fd y.toInt < fd (y.toInt + n) → dYok n r y ∧ 0 ≤ (dYl n r y).1.toInt ∧ (dYl n r y).1.toInt < fd ((dYl n r y).2.toInt + 1) - fd (dYl n r y).2.toInt ∧ (dYl n r y).1.toInt + fd (dYl n r y).2.toInt = r.toInt + fd y.toInt := by
  intro n
  induction n with
  | zero =>
    intro r y h1 h2 h3 h4 h5
    exfalso
    rw [show y.toInt + ((0 : Nat) : Int) = y.toInt by omega] at h5
    omega
  | succ n ih =>
    intro r y h1 h2 h3 h4 h5
    have hy : (fX2_daysOf_ y).toInt = fd (y.toInt + 1) - fd y.toInt := by rw [ylen_eq, ylen_fd]
    have hp : fd (y.toInt + 1) - fd y.toInt = 365 ∨ fd (y.toInt + 1) - fd y.toInt = 366 := by
      by_cases q : lp y.toInt
      · right; rw [fd_leap q]; omega
      · left; rw [fd_plain q]; omega
    by_cases hc : lg_cmp r (fX2_daysOf_ y).toInt64 < 0
    · have e : dYl (n + 1) r y = (r, y) := if_pos hc
      have h6 := lgc_lt.mp hc
      rw [oL hy] at h6
      rw [e]
      exact ⟨fun z => absurd hc z, h1, h6, rfl⟩
    · have e : dYl (n + 1) r y = dYl n (r - (fX2_daysOf_ y).toInt64) (y + 1) := if_neg hc
      have h6 : ¬ r.toInt < fd (y.toInt + 1) - fd y.toInt := fun z => hc (lgc_lt.mpr (by rw [oL hy]; exact z))
      have e1 : (r - (fX2_daysOf_ y).toInt64).toInt = r.toInt - (fd (y.toInt + 1) - fd y.toInt) := sL rfl (oL hy) (by omega)
      have e2 : (y + 1).toInt = y.toInt + 1 := aI rfl (show (1 : Int32).toInt = 1 from by decide) (by omega)
      have h7 := ih (r - (fX2_daysOf_ y).toInt64) (y + 1) (by rw [e1]; omega) (by rw [e1]; omega) (by rw [e2]; omega) (by rw [e2]; omega) (by rw [e1, e2, show y.toInt + 1 + (n : Int) = y.toInt + ((n + 1 : Nat) : Int) by omega]; omega)
      rw [e]
      refine ⟨fun _ => h7.1, h7.2.1, h7.2.2.1, ?_⟩
      rw [h7.2.2.2, e1, e2]
      omega
def dMb : Nat → Int64 → Int32 → Int32 → Bool
  | 0, _, _, _ => false
  | n + 1, r, y, m => if lg_cmp r (fX2_daysOf y m).toInt64 < 0 then true else dMb n (r - (fX2_daysOf y m).toInt64) y (m + 1)
theorem dMb_ok : ∀ (n : Nat) (r : Int64) (y m : Int32), dMb n r y m = true → dMok n r y m := by
  intro n
  induction n with
  | zero => intro r y m h; exact (Bool.false_ne_true h).elim
  | succ n ih =>
    intro r y m h hc
    have e : dMb (n + 1) r y m = dMb n (r - (fX2_daysOf y m).toInt64) y (m + 1) := if_neg hc
    rw [e] at h
    exact ih _ _ _ h
theorem daysOf_c {y z : Int32} (h : fX0_isLeapYear y = fX0_isLeapYear z) (m : Int32) : fX2_daysOf y m = fX2_daysOf z m := by
  unfold fX2_daysOf
  rw [leap_eq, leap_eq, h]
theorem dMb_c {y z : Int32} (h : fX0_isLeapYear y = fX0_isLeapYear z) : ∀ (n : Nat) (r : Int64) (m : Int32), dMb n r y m = dMb n r z m := by
  intro n
  induction n with
  | zero => intro r m; rfl
  | succ n ih =>
    intro r m
    show (if lg_cmp r (fX2_daysOf y m).toInt64 < 0 then true else dMb n (r - (fX2_daysOf y m).toInt64) y (m + 1)) = (if lg_cmp r (fX2_daysOf z m).toInt64 < 0 then true else dMb n (r - (fX2_daysOf z m).toInt64) z (m + 1))
    rw [daysOf_c h, ih]
