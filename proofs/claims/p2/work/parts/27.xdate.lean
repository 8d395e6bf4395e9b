/-! a day's date: both ways lead to the same -/
theorem dYl_spec : ∀ (n : Nat) (r : Int64) (y : Int32), 0 ≤ r.toInt → r.toInt < 4000000000 → -10500 ≤ y.toInt → y.toInt + n ≤ 10999 → r.toInt + fd y.toInt < fd (y.toInt + n) → dYok n r y ∧ 0 ≤ (dYl n r y).1.toInt ∧ (dYl n r y).1.toInt < fd ((dYl n r y).2.toInt + 1) - fd (dYl n r y).2.toInt ∧ (dYl n r y).1.toInt + fd (dYl n r y).2.toInt = r.toInt + fd y.toInt := by
  intro n
  induction n with
  | zero =>
    intro r y h1 h2 h3 h4 h5
    exfalso
    rw [show y.toInt + ((0 : Nat) : Int) = y.toInt by omega] at h5
    omega
  | succ n ih =>
    intro r y h1 h2 h3 h4 h5
    have hy : (fX2_daysOf_ y).toInt = fd (y.toInt + 1) - fd y.toInt := by rw [ylen_eq, ylen_fd]
    have hp : fd (y.toInt + 1) - fd y.toInt = 365 ∨ fd (y.toInt + 1) - fd y.toInt = 366 := by
      by_cases q : lp y.toInt
      · right; rw [fd_leap q]; omega
      · left; rw [fd_plain q]; omega
    by_cases hc : lg_cmp r (fX2_daysOf_ y).toInt64 < 0
    · have e : dYl (n + 1) r y = (r, y) := if_pos hc
      have h6 := lgc_lt.mp hc
      rw [oL hy] at h6
      rw [e]
      exact ⟨fun z => absurd hc z, h1, h6, rfl⟩
    · have e : dYl (n + 1) r y = dYl n (r - (fX2_daysOf_ y).toInt64) (y + 1) := if_neg hc
      have h6 : ¬ r.toInt < fd (y.toInt + 1) - fd y.toInt := fun z => hc (lgc_lt.mpr (by rw [oL hy]; exact z))
      have e1 : (r - (fX2_daysOf_ y).toInt64).toInt = r.toInt - (fd (y.toInt + 1) - fd y.toInt) := sL rfl (oL hy) (by omega)
      have e2 : (y + 1).toInt = y.toInt + 1 := aI rfl (show (1 : Int32).toInt = 1 from by decide) (by omega)
      have h7 := ih (r - (fX2_daysOf_ y).toInt64) (y + 1) (by rw [e1]; omega) (by rw [e1]; omega) (by rw [e2]; omega) (by rw [e2]; omega) (by rw [e1, e2, show y.toInt + 1 + (n : Int) = y.toInt + ((n + 1 : Nat) : Int) by omega]; omega)
      rw [e]
      refine ⟨fun _ => h7.1, h7.2.1, h7.2.2.1, ?_⟩
      rw [h7.2.2.2, e1, e2]
      omega
def dMb : Nat → Int64 → Int32 → Int32 → Bool
  | 0, _, _, _ => false
  | n + 1, r, y, m => if lg_cmp r (fX2_daysOf y m).toInt64 < 0 then true else dMb n (r - (fX2_daysOf y m).toInt64) y (m + 1)
theorem dMb_ok : ∀ (n : Nat) (r : Int64) (y m : Int32), dMb n r y m = true → dMok n r y m := by
  intro n
  induction n with
  | zero => intro r y m h; exact absurd h (by decide)
  | succ n ih =>
    intro r y m h hc
    have e : dMb (n + 1) r y m = dMb n (r - (fX2_daysOf y m).toInt64) y (m + 1) := if_neg hc
    rw [e] at h
    exact ih _ _ _ h
theorem daysOf_c {y z : Int32} (h : fX0_isLeapYear y = fX0_isLeapYear z) (m : Int32) : fX2_daysOf y m = fX2_daysOf z m := by
  unfold fX2_daysOf
  rw [leap_eq, leap_eq, h]
theorem dMb_c {y z : Int32} (h : fX0_isLeapYear y = fX0_isLeapYear z) : ∀ (n : Nat) (r : Int64) (m : Int32), dMb n r y m = dMb n r z m := by
  intro n
  induction n with
  | zero => intro r m; rfl
  | succ n ih =>
    intro r m
    show (if lg_cmp r (fX2_daysOf y m).toInt64 < 0 then true else dMb n (r - (fX2_daysOf y m).toInt64) y (m + 1)) = (if lg_cmp r (fX2_daysOf z m).toInt64 < 0 then true else dMb n (r - (fX2_daysOf z m).toInt64) z (m + 1))
    rw [daysOf_c h, ih]
theorem dMl_c {y z : Int32} (h : fX0_isLeapYear y = fX0_isLeapYear z) : ∀ (n : Nat) (r : Int64) (m : Int32), dMl n r y m = dMl n r z m := by
  intro n
  induction n with
  | zero => intro r m; rfl
  | succ n ih =>
    intro r m
    show (if lg_cmp r (fX2_daysOf y m).toInt64 < 0 then (r, m) else dMl n (r - (fX2_daysOf y m).toInt64) y (m + 1)) = (if lg_cmp r (fX2_daysOf z m).toInt64 < 0 then (r, m) else dMl n (r - (fX2_daysOf z m).toInt64) z (m + 1))
    rw [daysOf_c h, ih]
theorem daysAhead_c {y z : Int32} (h : fX0_isLeapYear y = fX0_isLeapYear z) (m : Int32) : fX0_daysAhead y m = fX0_daysAhead z m := by
  unfold fX0_daysAhead
  rw [h]
theorem monthLength_c {y z : Int32} (h : fX0_isLeapYear y = fX0_isLeapYear z) (m : Int32) : fX0_monthLength y m = fX0_monthLength z m := by
  unfold fX0_monthLength
  rw [h]
theorem monthOf_c {y z : Int32} (h : fX0_isLeapYear y = fX0_isLeapYear z) (d : Int32) : fX0_monthOf y d = fX0_monthOf z d := by
  unfold fX0_monthOf
  simp only [daysAhead_c h]
/-- what is to be seen of one day of a year -/
def okD (y : Int32) (j : Nat) : Bool :=
  dMb 13 (Int64.ofNat j) y 1 && decide ((dMl 13 (Int64.ofNat j) y 1).2 = fX0_monthOf y (nI (j + 1))) && decide (((dMl 13 (Int64.ofNat j) y 1).1.toInt32 + 1) = nI (j + 1) - fX0_daysAhead y (fX0_monthOf y (nI (j + 1)))) &&
  decide (1 ≤ fX0_monthOf y (nI (j + 1))) && decide (fX0_monthOf y (nI (j + 1)) ≤ 12) && decide (1 ≤ nI (j + 1) - fX0_daysAhead y (fX0_monthOf y (nI (j + 1)))) && decide (nI (j + 1) - fX0_daysAhead y (fX0_monthOf y (nI (j + 1))) ≤ fX0_monthLength y (fX0_monthOf y (nI (j + 1))))
theorem okD_leap : ∀ j : Nat, j < 366 → okD 2000 j = true := by decide +kernel
theorem okD_plain : ∀ j : Nat, j < 365 → okD 2001 j = true := by decide +kernel
theorem okD_c {y z : Int32} (h : fX0_isLeapYear y = fX0_isLeapYear z) (j : Nat) : okD y j = okD z j := by
  unfold okD
  simp only [dMb_c h, dMl_c h, daysAhead_c h, monthLength_c h, monthOf_c h]
theorem okD_of {y : Int32} {j : Nat} (h : (j : Int) < fd (y.toInt + 1) - fd y.toInt) : okD y j = true := by
  rcases leap0 y with ⟨q, e⟩ | ⟨q, e⟩
  · rw [okD_c (z := 2000) (by rw [e]; decide)]
    rw [fd_leap q] at h
    exact okD_leap j (by omega)
  · rw [okD_c (z := 2001) (by rw [e]; decide)]
    rw [fd_plain q] at h
    exact okD_plain j (by omega)
theorem yearOf_spec {D : Int64} (h1 : -4371587 ≤ D.toInt) (h2 : D.toInt ≤ 2932896) : YR (fX0_yearOf D) ∧ fd (fX0_yearOf D).toInt ≤ D.toInt + 719528 ∧ D.toInt + 719528 < fd ((fX0_yearOf D).toInt + 1) := by
  have l1 : (719528 : Int64).toInt = 719528 := by decide
  have l2 : (400 : Int64).toInt = 400 := by decide
  have l3 : (146097 : Int64).toInt = 146097 := by decide
  have e1 := mL (aL (x := D) rfl l1 (by omega)) l2 (by omega)
  have e2 := oI (fd64 e1 l3 (by decide)) (by omega)
  have o1 : (1 : Int32).toInt = 1 := by decide
  unfold fX0_yearOf
  generalize ((fJ9_floorDiv_f86c9 ((D + (719528 : Int64)) * (400 : Int64)) (146097 : Int64)).toInt32) = Y at e2 ⊢
  have b1 : -10000 ≤ Y.toInt ∧ Y.toInt ≤ 10000 := by omega
  have b2 : fd (Y.toInt - 1) ≤ D.toInt + 719528 ∧ D.toInt + 719528 < fd (Y.toInt + 2) := by unfold fd; omega
  have f1 := first_fd (y := Y) (by omega)
  have p1 := aI (x := Y) rfl o1 (by omega)
  have f2 := first_fd (y := Y + 1) (by rw [p1]; omega)
  rw [p1] at f2
  have rg : ∀ z : Int, fd z ≤ D.toInt + 719528 → D.toInt + 719528 < fd (z + 1) → -9999 ≤ z ∧ z ≤ 9999 := by
    intro z g1 g2
    unfold fd at g1 g2
    omega
  by_cases c1 : 0 ≤ (lg_cmp D (fX0_firstDayOf Y))
  · rw [if_pos c1]
    have g1 := lgc_ge.mp c1
    rw [f1] at g1
    by_cases c2 : 0 ≤ (lg_cmp D (fX0_firstDayOf (Y + (1 : Int32))))
    · rw [if_pos c2]
      have g2 := lgc_ge.mp c2
      rw [f2] at g2
      have q1 : fd (Y.toInt + 1) ≤ D.toInt + 719528 := by omega
      have q2 : D.toInt + 719528 < fd (Y.toInt + 1 + 1) := by rw [show Y.toInt + 1 + 1 = Y.toInt + 2 by omega]; exact b2.2
      have := rg _ q1 q2
      rw [show (Y + 1).toInt = Y.toInt + 1 from p1]
      exact ⟨⟨by rw [show (Y + 1).toInt = Y.toInt + 1 from p1]; omega, by rw [show (Y + 1).toInt = Y.toInt + 1 from p1]; omega⟩, q1, q2⟩
    · rw [if_neg c2]
      have g2 : ¬ fd (Y.toInt + 1) - 719528 ≤ D.toInt := fun z => c2 (lgc_ge.mpr (by rw [f2]; exact z))
      have q1 : fd Y.toInt ≤ D.toInt + 719528 := by omega
      have q2 : D.toInt + 719528 < fd (Y.toInt + 1) := by omega
      exact ⟨rg _ q1 q2, q1, q2⟩
  · rw [if_neg c1]
    have g1 : ¬ fd Y.toInt - 719528 ≤ D.toInt := fun z => c1 (lgc_ge.mpr (by rw [f1]; exact z))
    have p2 : (Y - (1 : Int32)).toInt = Y.toInt - 1 := sI rfl o1 (by omega)
    have q2 : D.toInt + 719528 < fd (Y.toInt - 1 + 1) := by rw [show Y.toInt - 1 + 1 = Y.toInt by omega]; omega
    have := rg _ b2.1 q2
    rw [p2]
    exact ⟨⟨by rw [p2]; omega, by rw [p2]; omega⟩, b2.1, q2⟩
theorem fd_lo : fd (-9999) = -3652059 := by decide
theorem fd_hi : fd 10000 = 3652425 := by decide
/-- the reference's years -/
theorem dY_spec {D : Int64} (h1 : -4371587 ≤ D.toInt) (h2 : D.toInt ≤ 2932896) : dYok (fuelY D) (dR0 D) (dY0 D) ∧ fX2_dy D = fX0_yearOf D ∧ (dR1 D).toInt = D.toInt + 719528 - fd (fX0_yearOf D).toInt := by
  have l1 : (719528 : Int64).toInt = 719528 := by decide
  have l2 : (400 : Int64).toInt = 400 := by decide
  have l3 : (146097 : Int64).toInt = 146097 := by decide
  have e1 := aL (x := D) rfl l1 (by omega)
  have e2 := fl2 e1 l3 (by decide)
  have e3 := mL l2 e2 (by omega)
  have e4 : (dY0 D).toInt = 400 * ((D.toInt + 719528) / 146097) := by
    unfold dY0
    rw [ahead_1970]
    exact oI e3 (by omega)
  have e5 : (dR0 D).toInt = D.toInt + 719528 - 146097 * ((D.toInt + 719528) / 146097) := by
    have f := ahead_fd (oL (oI e3 (by omega))) (by omega)
    unfold dR0
    rw [ahead_1970]
    rw [fd_400] at f
    exact sL e1 f (by omega)
  have key := dYl_spec 401 (dR0 D) (dY0 D) (by rw [e5]; omega) (by rw [e5]; omega) (by rw [e4]; omega) (by rw [e4]; omega) (by
    rw [e5, e4, fd_400]
    have : fd (400 * ((D.toInt + 719528) / 146097 + 1)) ≤ fd (400 * ((D.toInt + 719528) / 146097) + (401 : Nat)) := fd_mono (by omega)
    rw [fd_400] at this
    omega)
  have hy := yearOf_spec h1 h2
  have k1 : dYl 401 (dR0 D) (dY0 D) = (dR1 D, fX2_dy D) := by rw [← dE1, fuelY_eq]
  rw [k1] at key
  obtain ⟨k2, k3, k4, k5⟩ := key
  have k6 : (dR1 D).toInt + fd (fX2_dy D).toInt = D.toInt + 719528 := by
    have : (dR1 D, fX2_dy D).1.toInt + fd (dR1 D, fX2_dy D).2.toInt = (dR0 D).toInt + fd (dY0 D).toInt := k5
    rw [e5, e4, fd_400] at this
    have t2 : (dR1 D).toInt + fd (fX2_dy D).toInt = D.toInt + 719528 - 146097 * ((D.toInt + 719528) / 146097) + 146097 * ((D.toInt + 719528) / 146097) := this
    omega
  have k7 : 0 ≤ (dR1 D).toInt := k3
  have k8 : (dR1 D).toInt < fd ((fX2_dy D).toInt + 1) - fd (fX2_dy D).toInt := k4
  have k9 : (fX2_dy D).toInt = (fX0_yearOf D).toInt := fd_one (n := D.toInt + 719528) (by omega) (by omega) hy.2.1 hy.2.2
  refine ⟨by rw [fuelY_eq]; exact k2, Int32.toInt_inj.mp k9, by rw [← k9]; omega⟩
def dXd (D : Int64) : Int32 := (((D - (fX0_firstDayOf (fX0_yearOf D))).toInt32) + (1 : Int32))
def dXm (D : Int64) : Int32 := fX0_monthOf (fX0_yearOf D) (dXd D)
def dXq (D : Int64) : Int32 := dXd D - fX0_daysAhead (fX0_yearOf D) (dXm D)
theorem date_spec {D : Int64} (h1 : -4371587 ≤ D.toInt) (h2 : D.toInt ≤ 2932896) : dMok (fuelM D) (dR1 D) (fX2_dy D) 1 ∧ fX2_dm D = dXm D ∧ ((dR2 D).toInt32 + 1) = dXq D ∧ MN (dXm D) ∧ (1 ≤ (dXq D).toInt ∧ dXq D ≤ fX0_monthLength (fX0_yearOf D) (dXm D)) ∧ fX0_dayOf (fX0_yearOf D) (dXm D) (dXq D) = D := by
  obtain ⟨k1, k2, k3⟩ := dY_spec h1 h2
  obtain ⟨y1, y2, y3⟩ := yearOf_spec h1 h2
  have o1 : (1 : Int32).toInt = 1 := by decide
  have hf := first_fd (y := fX0_yearOf D) (by unfold YR at y1; omega)
  have hb : 0 ≤ (dR1 D).toInt ∧ (dR1 D).toInt < fd ((fX0_yearOf D).toInt + 1) - fd (fX0_yearOf D).toInt ∧ fd ((fX0_yearOf D).toInt + 1) - fd (fX0_yearOf D).toInt ≤ 366 := by
    refine ⟨by omega, by omega, ?_⟩
    by_cases q : lp (fX0_yearOf D).toInt
    · rw [fd_leap q]; omega
    · rw [fd_plain q]; omega
  obtain ⟨j, hj⟩ : ∃ j : Nat, (dR1 D).toInt = (j : Int) := ⟨(dR1 D).toInt.toNat, by omega⟩
  have hjl : j < 366 := by omega
  have er : dR1 D = Int64.ofNat j := by
    refine eqL hj ?_
    rw [← Int64.ofInt_eq_ofNat, Int64.toInt_ofInt_of_le (by omega) (by omega)]
  have ed : dXd D = nI (j + 1) := by
    refine eqI (a := (j : Int) + 1) ?_ (by rw [nI_toInt (by omega)]; omega)
    have e1 := sL (x := D) rfl hf (by unfold fd; unfold YR at y1; omega)
    unfold dXd
    exact (aI (oI e1 (by omega)) o1 (by omega)).trans (by omega)
  have ok := okD_of (y := fX0_yearOf D) (j := j) (by omega)
  unfold okD at ok
  simp only [Bool.and_eq_true, decide_eq_true_eq] at ok
  obtain ⟨⟨⟨⟨⟨⟨a1, a2⟩, a3⟩, a4⟩, a5⟩, a6⟩, a7⟩ := ok
  have em : dXm D = fX0_monthOf (fX0_yearOf D) (nI (j + 1)) := by unfold dXm; rw [ed]
  have eq : dXq D = nI (j + 1) - fX0_daysAhead (fX0_yearOf D) (fX0_monthOf (fX0_yearOf D) (nI (j + 1))) := by unfold dXq; rw [ed, em]
  have hM : MN (dXm D) := by
    rw [em]
    have b1 := Int32.le_iff_toInt_le.mp a4
    have b2 := Int32.le_iff_toInt_le.mp a5
    rw [o1] at b1
    rw [show (12 : Int32).toInt = 12 from by decide] at b2
    exact ⟨b1, b2⟩
  have hq1 : 1 ≤ (dXq D).toInt := by
    have b1 := Int32.le_iff_toInt_le.mp a6
    rw [o1] at b1
    rw [eq]; exact b1
  have hq2 : dXq D ≤ fX0_monthLength (fX0_yearOf D) (dXm D) := by rw [eq, em]; exact a7
  have hlen := len_rng (y := fX0_yearOf D) (m := dXm D)
  have hq3 := Int32.le_iff_toInt_le.mp hq2
  refine ⟨by rw [fuelM_eq, k2, er]; exact dMb_ok _ _ _ _ a1, ?_, ?_, hM, ⟨hq1, hq2⟩, ?_⟩
  · rw [em, ← a2]
    unfold fX2_dm
    rw [fuelM_eq, k2, er]
  · rw [eq, ← a3]
    unfold dR2
    rw [fuelM_eq, k2, er]
  · have ha := ahead_rng (y := fX0_yearOf D) hM
    refine eqL (dayOf_fd (by unfold YR at y1; omega) hM (by omega)) ?_
    have : (dXq D).toInt = (j : Int) + 1 - (fX0_daysAhead (fX0_yearOf D) (dXm D)).toInt := by
      rw [eq, em]
      rw [em] at ha
      exact sI (by rw [nI_toInt (by omega)]; omega) rfl (by omega)
    omega
theorem dOK' {p0 : Int64} (h1 : ¬ lg_cmp p0 (fX2_dayOf (-9999) 1 1) < 0) (h2 : lg_cmp p0 (fX2_dayOf 9999 12 31) ≤ 0) : dYok (fuelY p0) (dR0 p0) (dY0 p0) ∧ dMok (fuelM p0) (dR1 p0) (fX2_dy p0) 1 ∧ fX2_dm p0 ≤ 12 := by
  have e1 : fX2_dayOf (-9999) 1 1 = -4371587 := by decide +kernel
  have e2 : fX2_dayOf 9999 12 31 = 2932896 := by decide +kernel
  rw [e1] at h1
  rw [e2] at h2
  have g1 : -4371587 ≤ p0.toInt := by
    have : ¬ p0.toInt < (-4371587 : Int64).toInt := fun z => h1 (lgc_lt.mpr z)
    rw [show (-4371587 : Int64).toInt = -4371587 from by decide] at this
    omega
  have g2 : p0.toInt ≤ 2932896 := by
    have := lgc_le.mp h2
    rw [show (2932896 : Int64).toInt = 2932896 from by decide] at this
    exact this
  obtain ⟨k1, k2, k3⟩ := dY_spec g1 g2
  obtain ⟨m1, m2, m3, m4, m5, m6⟩ := date_spec g1 g2
  refine ⟨k1, m1, ?_⟩
  rw [m2, Int32.le_iff_toInt_le, show (12 : Int32).toInt = 12 from by decide]
  exact m4.2
theorem mon12' (x : Int64) : ((x - 12 * fX2_floor x 12).toInt32 + 1) ≤ 12 := by
  have hr := fb_rngL x
  have l : (12 : Int64).toInt = 12 := by decide
  have e1 := fl2 (x := x) rfl l (by decide)
  have e2 := mL l e1 (by omega)
  have e3 := sL (x := x) rfl e2 (by omega)
  have e4 := aI (oI e3 (by omega)) (show (1 : Int32).toInt = 1 from by decide) (by omega)
  rw [Int32.le_iff_toInt_le, e4, show (12 : Int32).toInt = 12 from by decide]
  omega
