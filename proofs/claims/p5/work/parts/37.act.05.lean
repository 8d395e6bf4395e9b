theorem hb_int {h m : Int32} (a1 : 0 ≤ h.toInt ∧ h.toInt ≤ 23) (a2 : 0 ≤ m.toInt ∧ m.toInt ≤ 59) : (((60 : Int64) * ((((60 : Int32) * h) + m).toInt64)) * (1000000000 : Int64)).toInt = 60 * (60 * h.toInt + m.toInt) * 1000000000 :=
  mL (mL (show (60 : Int64).toInt = 60 from by decide) (oL (aI (mI (show (60 : Int32).toInt = 60 from by decide) (show h.toInt = h.toInt from rfl) (by omega)) (show m.toInt = m.toInt from rfl) (by omega))) (by omega)) l1e9 (by omega)
theorem ht0 {h m : Int32} (a1 : 0 ≤ h.toInt ∧ h.toInt ≤ 23) (a2 : 0 ≤ m.toInt ∧ m.toInt ≤ 59) : (((60 : Int64) * ((((60 : Int32) * h) + m).toInt64)) * (1000000000 : Int64)) = fX0_timeOf h m 0 0 := by
  refine eqL (hb_int a1 a2) ?_
  rw [timeOf_int a1 a2 (by rw [l0I]; decide) (by rw [l0I]; decide), l0I]
  omega
theorem ht1 {h m s : Int32} (a1 : 0 ≤ h.toInt ∧ h.toInt ≤ 23) (a2 : 0 ≤ m.toInt ∧ m.toInt ≤ 59) (a3 : 0 ≤ s.toInt ∧ s.toInt ≤ 59) : ((((60 : Int64) * ((((60 : Int32) * h) + m).toInt64)) * (1000000000 : Int64)) + (s.toInt64 * (1000000000 : Int64))) = fX0_timeOf h m s 0 := by
  refine eqL (aL (hb_int a1 a2) (mL (oL (x := s) rfl) l1e9 (by omega)) (by omega)) ?_
  rw [timeOf_int a1 a2 a3 (by rw [l0I]; decide), l0I]
  omega
theorem ht2 {h m s n : Int32} (a1 : 0 ≤ h.toInt ∧ h.toInt ≤ 23) (a2 : 0 ≤ m.toInt ∧ m.toInt ≤ 59) (a3 : 0 ≤ s.toInt ∧ s.toInt ≤ 59) (a4 : 0 ≤ n.toInt ∧ n.toInt ≤ 999999999) : (((((60 : Int64) * ((((60 : Int32) * h) + m).toInt64)) * (1000000000 : Int64)) + (s.toInt64 * (1000000000 : Int64))) + n.toInt64) = fX0_timeOf h m s n := by
  refine eqL (aL (aL (hb_int a1 a2) (mL (oL (x := s) rfl) l1e9 (by omega)) (by omega)) (oL (x := n) rfl) (by omega)) ?_
  rw [timeOf_int a1 a2 a3 a4]
  omega
theorem hand0 {S : SX} {th u q : Int32} (hI : Inv S) (h6 : ¬ u = 6) (h1 : (u - u / (3 : Int32) * (3 : Int32)) < (1 : Int32)) (h2 : (u - u / (3 : Int32) * (3 : Int32)) < (2 : Int32)) (g1 : q ≤ 0) (g2 : q ≤ (1 : Int32)) : fX2_handTime (mkM th S) q = fX0_handTime S u ∧ TV (fX0_handTime S u) := by
  have e : fX0_handTime S u = fX0_timeOf (xi S 0) (xi S 1) (0 : Int32) (0 : Int32) := (if_neg h6).trans ((if_pos h1).trans (if_pos h2))
  have e2 : fX2_handTime (mkM th S) q = _ := (if_pos g1).trans (if_pos g2)
  rw [e, e2]
  exact ⟨ht0 hI.2.1 hI.2.2.1, timeOf_TV hI.2.1 hI.2.2.1 (by rw [l0I]; decide) (by rw [l0I]; decide)⟩
theorem hand1 {S : SX} {th u q : Int32} (hI : Inv S) (h6 : ¬ u = 6) (h1 : ¬ (u - u / (3 : Int32) * (3 : Int32)) < (1 : Int32)) (h2 : (u - u / (3 : Int32) * (3 : Int32)) < (2 : Int32)) (g1 : ¬ q ≤ 0) (g2 : q ≤ (1 : Int32)) : fX2_handTime (mkM th S) q = fX0_handTime S u ∧ TV (fX0_handTime S u) := by
  have e : fX0_handTime S u = fX0_timeOf (xi S 0) (xi S 1) (xi S 2) (0 : Int32) := (if_neg h6).trans ((if_neg h1).trans (if_pos h2))
  have e2 : fX2_handTime (mkM th S) q = _ := (if_neg g1).trans (if_pos g2)
  rw [e, e2]
  exact ⟨ht1 hI.2.1 hI.2.2.1 hI.2.2.2.1, timeOf_TV hI.2.1 hI.2.2.1 hI.2.2.2.1 (by rw [l0I]; decide)⟩
theorem hand2 {S : SX} {th u q : Int32} (hI : Inv S) (h6 : u = 6 ∨ ¬ u = 6 ∧ ¬ (u - u / (3 : Int32) * (3 : Int32)) < (1 : Int32) ∧ ¬ (u - u / (3 : Int32) * (3 : Int32)) < (2 : Int32)) (g1 : ¬ q ≤ 0) (g2 : ¬ q ≤ (1 : Int32)) : fX2_handTime (mkM th S) q = fX0_handTime S u ∧ TV (fX0_handTime S u) := by
  have e : fX0_handTime S u = fX0_timeOf (xi S 0) (xi S 1) (xi S 2) (xi S 3) := by
    rcases h6 with h | ⟨h, h1, h2⟩
    · exact if_pos h
    · exact (if_neg h).trans ((if_neg h1).trans (if_neg h2))
  have e2 : fX2_handTime (mkM th S) q = _ := (if_neg g1).trans (if_neg g2)
  rw [e, e2]
  exact ⟨ht2 hI.2.1 hI.2.2.1 hI.2.2.2.1 hI.2.2.2.2, timeOf_TV hI.2.1 hI.2.2.1 hI.2.2.2.1 hI.2.2.2.2⟩
