theorem yearOf_spec {D : Int64} (h1 : -4371587 ≤ D.toInt) (h2 : D.toInt ≤ 2932896) : YR (fX0_yearOf D) ∧ fd (fX0_yearOf D).toInt ≤ D.toInt + 719528 ∧ D.toInt + 719528 < fd ((fX0_yearOf D).toInt + 1) := by
  have l1 : (719528 : Int64).toInt = 719528 := by decide
  have l2 : (400 : Int64).toInt = 400 := by decide
  have l3 : (146097 : Int64).toInt = 146097 := by decide
  have e1 := mL (aL (x := D) rfl l1 (by omega)) l2 (by omega)
  have e2 := oI (fd64 e1 l3 (by decide)) (by omega)
  have o1 : (1 : Int32).toInt = 1 := by decide
  unfold fX0_yearOf
  generalize ((fJ9_floorDiv_f86c9 ((D + (719528 : Int64)) * (400 : Int64)) (146097 : Int64)).toInt32) = Y at e2 ⊢
  have b1 : -10000 ≤ Y.toInt ∧ Y.toInt ≤ 10000 := by omega
  have b2 : fd (Y.toInt - 1) ≤ D.toInt + 719528 ∧ D.toInt + 719528 < fd (Y.toInt + 2) := by unfold fd; omega
  have f1 := first_fd (y := Y) (by omega)
  have p1 := aI (x := Y) rfl o1 (by omega)
  have f2 := first_fd (y := Y + 1) (by rw [p1]; omega)
  rw [p1] at f2
  have rg : ∀ z : Int, fd z ≤ D.toInt + 719528 → D.toInt + 719528 < fd (z + 1) → -9999 ≤ z ∧ z ≤ 9999 := by
    intro z g1 g2
    unfold fd at g1 g2
    omega
  by_cases c1 : 0 ≤ (lg_cmp D (fX0_firstDayOf Y))
  · rw [if_pos c1]
    have g1 := lgc_ge.mp c1
    rw [f1] at g1
    by_cases c2 : 0 ≤ (lg_cmp D (fX0_firstDayOf (Y + (1 : Int32))))
    · rw [if_pos c2]
      have g2 := lgc_ge.mp c2
      rw [f2] at g2
      have q1 : fd (Y.toInt + 1) ≤ D.toInt + 719528 := by omega
      have q2 : D.toInt + 719528 < fd (Y.toInt + 1 + 1) := by rw [show Y.toInt + 1 + 1 = Y.toInt + 2 by omega]; exact b2.2
      have := rg _ q1 q2
      rw [show (Y + 1).toInt = Y.toInt + 1 from p1]
      exact ⟨⟨by rw [show (Y + 1).toInt = Y.toInt + 1 from p1]; omega, by rw [show (Y + 1).toInt = Y.toInt + 1 from p1]; omega⟩, q1, q2⟩
    · rw [if_neg c2]
      have g2 : ¬ fd (Y.toInt + 1) - 719528 ≤ D.toInt := fun z => c2 (lgc_ge.mpr (by rw [f2]; exact z))
      have q1 : fd Y.toInt ≤ D.toInt + 719528 := by omega
      have q2 : D.toInt + 719528 < fd (Y.toInt + 1) := by omega
      exact ⟨rg _ q1 q2, q1, q2⟩
  · rw [if_neg c1]
    have g1 : ¬ fd Y.toInt - 719528 ≤ D.toInt := fun z => c1 (lgc_ge.mpr (by rw [f1]; exact z))
    have p2 : (Y - (1 : Int32)).toInt = Y.toInt - 1 := sI rfl o1 (by omega)
    have q2 : D.toInt + 719528 < fd (Y.toInt - 1 + 1) := by rw [show Y.toInt - 1 + 1 = Y.toInt by omega]; omega
    have := rg _ b2.1 q2
    rw [p2]
    exact ⟨⟨by rw [p2]; omega, by rw [p2]; omega⟩, b2.1, q2⟩
