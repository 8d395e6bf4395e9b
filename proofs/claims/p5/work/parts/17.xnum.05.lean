theorem dMl_c {y z : Int32} (h : fX0_isLeapYear y = fX0_isLeapYear z) : ∀ (n : Nat) (r : Int64) (m : Int32), dMl n r y m = dMl n r z m := by
  intro n
  induction n with
  | zero => intro r m; rfl
  | succ n ih =>
    intro r m
    show (if lg_cmp r (fX2_daysOf y m).toInt64 < 0 then (r, m) else dMl n (r - (fX2_daysOf y m).toInt64) y (m + 1)) = (if lg_cmp r (fX2_daysOf z m).toInt64 < 0 then (r, m) else dMl n (r - (fX2_daysOf z m).toInt64) z (m + 1))
    rw [daysOf_c h, ih]
theorem daysAhead_c {y z : Int32} (h : fX0_isLeapYear y = fX0_isLeapYear z) (m : Int32) : fX0_daysAhead y m = fX0_daysAhead z m := by
  unfold fX0_daysAhead
  rw [h]
theorem monthLength_c {y z : Int32} (h : fX0_isLeapYear y = fX0_isLeapYear z) (m : Int32) : fX0_monthLength y m = fX0_monthLength z m := by
  unfold fX0_monthLength
  rw [h]
theorem monthOf_c {y z : Int32} (h : fX0_isLeapYear y = fX0_isLeapYear z) (d : Int32) : fX0_monthOf y d = fX0_monthOf z d := by
  unfold fX0_monthOf
  simp only [daysAhead_c h]
/-- what is to be seen of one day of a year -/
def okD (y : Int32) (j : Nat) : Bool :=
  dMb 13 (Int64.ofNat j) y 1 && decide ((dMl 13 (Int64.ofNat j) y 1).2 = fX0_monthOf y (nI (j + 1))) && decide (((dMl 13 (Int64.ofNat j) y 1).1.toInt32 + 1) = nI (j + 1) - fX0_daysAhead y (fX0_monthOf y (nI (j + 1)))) &&
  decide (1 ≤ fX0_monthOf y (nI (j + 1))) && decide (fX0_monthOf y (nI (j + 1)) ≤ 12) && decide (1 ≤ nI (j + 1) - fX0_daysAhead y (fX0_monthOf y (nI (j + 1)))) && decide (nI (j + 1) - fX0_daysAhead y (fX0_monthOf y (nI (j + 1))) ≤ fX0_monthLength y (fX0_monthOf y (nI (j + 1))))
theorem okD_leap : ∀ j : Nat, j < 366 → okD 2000 j = true := by decide +kernel
theorem okD_plain : ∀ j : Nat, j < 365 → okD 2001 j = true := by decide +kernel
theorem okD_c {y z : Int32} (h : fX0_isLeapYear y = fX0_isLeapYear z) (j : Nat) : okD y j = okD z j := by
  unfold okD
  simp only [dMb_c h, dMl_c h, daysAhead_c h, monthLength_c h, monthOf_c h]
theorem okD_of {y : Int32} {j : Nat} (h : (j : Int) < fd (y.toInt + 1) - fd y.toInt) : okD y j = true := by
  rcases leap0 y with ⟨q, e⟩ | ⟨q, e⟩
  · rw [okD_c (z := 2000) (by rw [e]; decide)]
    rw [fd_leap q] at h
    exact okD_leap j (by omega)
  · rw [okD_c (z := 2001) (by rw [e]; decide)]
    rw [fd_plain q] at h
    exact okD_plain j (by omega)
theorem yearOf_spec {D : Int64} (h1 : -4371587 ≤ D.toInt) (h2 : D.toInt ≤ 2932896) : YR (fX0_yearOf D) ∧ fd (fX0_yearOf D).toInt ≤ D.toInt + 719528 ∧ D.toInt + 719528 < fd ((fX0_yearOf D).toInt + 1) := by
  have l1 : (719528 : Int64).toInt = 719528 := by decide
  have l2 : (400 : Int64).toInt = 400 := by decide
  have l3 : (146097 : Int64).toInt = 146097 := by decide
  have e1 := mL (aL (x := D) rfl l1 (by omega)) l2 (by omega)
  have e2 := oI (fd64 e1 l3 (by decide)) (by omega)
  have o1 : (1 : Int32).toInt = 1 := by decide
  unfold fX0_yearOf
  generalize ((fJ9_floorDiv_f86c9 ((D + (719528 : Int64)) * (400 : Int64)) (146097 : Int64)).toInt32) = Y at e2 ⊢
  have b1 : -10000 ≤ Y.toInt ∧ Y.toInt ≤ 10000 := by omega
  have b2 : fd (Y.toInt - 1) ≤ D.toInt + 719528 ∧ D.toInt + 719528 < fd (Y.toInt + 2) := by unfold fd; omega
  have f1 := first_fd (y := Y) (by omega)
  have p1 := aI (x := Y) rfl o1 (by omega)
  have f2 := first_fd (y := Y + 1) (by rw [p1]; omega)
  rw [p1] at f2
  have rg : ∀ z : Int, fd z ≤ D.toInt + 719528 → D.toInt + 719528 < fd (z + 1) → -9999 ≤ z ∧ z ≤ 9999 := by
    intro z g1 g2
    unfold fd at g1 g2
    omega
  by_cases c1 : 0 ≤ (lg_cmp D (fX0_firstDayOf Y))
  · rw [if_pos c1]
    have g1 := lgc_ge.mp c1
    rw [f1] at g1
    by_cases c2 : 0 ≤ (lg_cmp D (fX0_firstDayOf (Y + (1 : Int32))))
    · rw [if_pos c2]
      have g2 := lgc_ge.mp c2
      rw [f2] at g2
      have q1 : fd (Y.toInt + 1) ≤ D.toInt + 719528 := by omega
      have q2 : D.toInt + 719528 < fd (Y.toInt + 1 + 1) := by rw [show Y.toInt + 1 + 1 = Y.toInt + 2 by omega]; exact b2.2
      have := rg _ q1 q2
      rw [show (Y + 1).toInt = Y.toInt + 1 from p1]
      exact ⟨⟨by rw [show (Y + 1).toInt = Y.toInt + 1 from p1]; omega, by rw [show (Y + 1).toInt = Y.toInt + 1 from p1]; omega⟩, q1, q2⟩
    · rw [if_neg c2]
      have g2 : ¬ fd (Y.toInt + 1) - 719528 ≤ D.toInt := fun z => c2 (lgc_ge.mpr (by rw [f2]; exact z))
      have q1 : fd Y.toInt ≤ D.toInt + 719528 := by omega
      have q2 : D.toInt + 719528 < fd (Y.toInt + 1) := by omega
      exact ⟨rg _ q1 q2, q1, q2⟩
  · rw [if_neg c1]
    have g1 : ¬ fd Y.toInt - 719528 ≤ D.toInt := fun z => c1 (lgc_ge.mpr (by rw [f1]; exact z))
    have p2 : (Y - (1 : Int32)).toInt = Y.toInt - 1 := sI rfl o1 (by omega)
    have q2 : D.toInt + 719528 < fd (Y.toInt - 1 + 1) := by rw [show Y.toInt - 1 + 1 = Y.toInt by omega]; omega
    have := rg _ b2.1 q2
    rw [p2]
    exact ⟨⟨by rw [p2]; omega, by rw [p2]; omega⟩, b2.1, q2⟩
theorem fd_lo : fd (-9999) = -3652059 := by decide
theorem fd_hi : fd 10000 = 3652425 := by decide
