theorem b1_minusNanos {S : SX} {th p0 p1 p2 : Int32} (h : ¬ (vp_in p0 6)) : gX2_minusNanos (mkM th S) p0 p1 p2 = ((0 : Int32), mkM 1 S) := by
  unfold gX2_minusNanos
  rw [none_1 h]
  exact if_neg (frf_l1 _)
theorem g_minusNanos {S : SX} {th p0 p1 p2 : Int32} (hI : Inv S) (hM : vp_in p0 6) : GO 0 (gX2_minusNanos (mkM th S) p0 p1 p2) (gX0_minusNanos S p0 p1 p2) := by
  have e1 : gX2_minusNanos (mkM th S) p0 p1 p2 = gX2_onLine (mkM 0 S) p0 (-(((p1.toInt64) * (1000000000 : Int64)) + (p2.toInt64))) (1 : Int64) := by
    unfold gX2_minusNanos; rw [none_0 hM]
    exact (if_pos (by decide)).trans peta
  have e0 : gX0_minusNanos S p0 p1 p2 = gX0_goLine S p0 (0 : Int64) (-(((p1.toInt64) * (1000000000 : Int64)) + (p2.toInt64))) := peta
  rw [e1, e0]
  have hr := fb_rng p1
  have hr2 := fb_rng p2
  have h1 := aL (mL (oL (x := p1) rfl) l1e9 (by omega)) (oL (x := p2) rfl) (by omega)
  exact nano_line hI hM (gL h1 (by omega)) (by omega)
theorem act_minusNanos {S : SX} {T : SM} {n : Int64} {p0 p1 p2 c9 : Int32} {n9 : Int64} {S9 : SX} (hR : Rel S T) (h9 : H_minusNanos S n p0 p1 p2 c9 n9 S9) : Rel S9 (gX2_minusNanos T p0 p1 p2).2 ∧ (fX2_thrown (gX2_minusNanos T p0 p1 p2).2 = c9 ∧ (c9 = 0 → n9 = ((gX2_minusNanos T p0 p1 p2).1).toInt64)) := by
  obtain ⟨⟨th, rfl⟩, hI⟩ := hR
  rcases h9 with ⟨h, e1, e2, e3⟩ | ⟨hM, e1, e2, e3⟩
  all_goals (have e1 := e1.symm; have e2 := e2.symm; have e3 := e3.symm; subst e1; subst e2; subst e3)
  · rw [b1_minusNanos h]
    exact ⟨⟨⟨_, rfl⟩, hI⟩, rfl, fun z => absurd z (by decide)⟩
  · exact fin_W (g_minusNanos (th := th) hI hM)
theorem rel_minusNanos {S : SX} {T : SM} {n : Int64} {p0 p1 p2 c9 : Int32} {n9 : Int64} {S9 : SX} (hR : Rel S T) (h9 : H_minusNanos S n p0 p1 p2 c9 n9 S9) : Rel S9 (gX2_minusNanos T p0 p1 p2).2 := (act_minusNanos hR h9).1
theorem cmp_minusNanos {S : SX} {T : SM} {n : Int64} {p0 p1 p2 c9 : Int32} {n9 : Int64} {S9 : SX} (hR : Rel S T) (h9 : H_minusNanos S n p0 p1 p2 c9 n9 S9) : fX2_thrown (gX2_minusNanos T p0 p1 p2).2 = c9 ∧ (c9 = 0 → n9 = ((gX2_minusNanos T p0 p1 p2).1).toInt64) := (act_minusNanos hR h9).2
theorem b1_plusUnits {S : SX} {th p0 p1 p2 : Int32} (h : ¬ (vp_in p0 6)) : gX2_plusUnits (mkM th S) p0 p1 p2 = ((0 : Int32), mkM 1 S) := by
  unfold gX2_plusUnits
  rw [none_1 h]
  repeat (first | exact if_neg (frf_l1 _) | (refine ite_both ?_ ?_; rfl))
theorem b2_plusUnits {S : SX} {th p0 p1 p2 : Int32} (hM : vp_in p0 6) (h : ¬ ((¬ p1 < (-100000 : Int32) ∧ p1 ≤ (100000 : Int32)) ∧ (¬ p2 < (0 : Int32) ∧ p2 ≤ (13 : Int32)))) : gX2_plusUnits (mkM th S) p0 p1 p2 = ((0 : Int32), mkM 2 S) := by
  unfold gX2_plusUnits
  rw [none_0 hM]
  by_cases c0 : (¬ p1 < (-100000 : Int32) ∧ p1 ≤ (100000 : Int32))
  case neg => rw [from_0 c0]; exact if_pos rfl
  rw [from_1 c0.1 c0.2]
  refine (if_neg (by decide)).trans ?_
  rw [from_0 (fun z => h ⟨c0, z⟩)]
  exact if_neg (by decide)
theorem g_plusUnits {S : SX} {th p0 p1 p2 : Int32} (hI : Inv S) (hM : vp_in p0 6) (hR : (¬ p1 < (-100000 : Int32) ∧ p1 ≤ (100000 : Int32)) ∧ (¬ p2 < (0 : Int32) ∧ p2 ≤ (13 : Int32))) : GO 0 (gX2_plusUnits (mkM th S) p0 p1 p2) (gX0_plusUnits S p0 p1 p2) := by
  have r1 := (rg hR.1 (by decide : (-100000 : Int32).toInt = -100000) (by decide : (100000 : Int32).toInt = 100000))
  have r2 := (rg hR.2 (by decide : (0 : Int32).toInt = 0) (by decide : (13 : Int32).toInt = 13))
  have h1 := oL (x := p1) rfl
  unfold gX2_plusUnits; rw [none_0 hM, from_1 hR.1.1 hR.1.2, from_1 hR.2.1 hR.2.2]
  refine GO.of ((if_neg (by decide)).trans (if_pos (by decide))) ?_
  by_cases c : p2.toInt ≤ 8
  · have c8 : p2 ≤ (8 : Int32) := Int32.le_iff_toInt_le.mpr (by rw [show (8 : Int32).toInt = 8 from by decide]; exact c)
    have c9 : ¬ (9 : Int32) ≤ p2 := fun z => by have := Int32.le_iff_toInt_le.mp z; rw [show (9 : Int32).toInt = 9 from by decide] at this; omega
    have e0 : gX0_plusUnits S p0 p1 p2 = gX0_goUnits S p0 (p1.toInt64) p2 := (if_neg c9).trans peta
    rw [e0]
    refine GO.of (if_pos c8) ?_
    by_cases e8 : p2 = 8
    · refine GO.of ((if_pos e8).trans peta) ?_
      subst e8
      exact weeks_eq (th := 0) hI hM (mL (show (7 : Int64).toInt = 7 from by decide) h1 (by omega)) h1 (by omega)
    · refine GO.of ((if_neg e8).trans peta) ?_
      have : ¬ p2.toInt = 8 := fun z => e8 (eqI z (by decide))
      exact goUnits_eq (th := 0) hI hM (by omega) h1 (by omega)
  · have c8 : ¬ p2 ≤ (8 : Int32) := fun z => c (by have := Int32.le_iff_toInt_le.mp z; rw [show (8 : Int32).toInt = 8 from by decide] at this; exact this)
    have c9 : (9 : Int32) ≤ p2 := Int32.le_iff_toInt_le.mpr (by rw [show (9 : Int32).toInt = 9 from by decide]; omega)
    have e0 : gX0_plusUnits S p0 p1 p2 = gX0_goMonths S p0 ((p1.toInt64) * (fX0_monthsOfUnit p2)) := (if_pos c9).trans peta
    rw [e0]
    refine GO.of ((if_neg c8).trans peta) ?_
    obtain ⟨z, z1, z2, z3⟩ := mu_int (u := p2) (by omega)
    rw [z2]
    have z4 := mL h1 z1 (mu_b r1 z3)
    exact goMonths_eq (th := 0) hI hM (by rw [z4]; exact mu_c r1 z3)
theorem act_plusUnits {S : SX} {T : SM} {n : Int64} {p0 p1 p2 c9 : Int32} {n9 : Int64} {S9 : SX} (hR : Rel S T) (h9 : H_plusUnits S n p0 p1 p2 c9 n9 S9) : Rel S9 (gX2_plusUnits T p0 p1 p2).2 ∧ (fX2_thrown (gX2_plusUnits T p0 p1 p2).2 = c9 ∧ (c9 = 0 → n9 = ((gX2_plusUnits T p0 p1 p2).1).toInt64)) := by
  obtain ⟨⟨th, rfl⟩, hI⟩ := hR
  rcases h9 with ⟨h, e1, e2, e3⟩ | ⟨hM, h, e1, e2, e3⟩ | ⟨hM, hR, e1, e2, e3⟩
  all_goals (have e1 := e1.symm; have e2 := e2.symm; have e3 := e3.symm; subst e1; subst e2; subst e3)
  · rw [b1_plusUnits h]
    exact ⟨⟨⟨_, rfl⟩, hI⟩, rfl, fun z => absurd z (by decide)⟩
  · rw [b2_plusUnits hM h]
    exact ⟨⟨⟨_, rfl⟩, hI⟩, rfl, fun z => absurd z (by decide)⟩
  · exact fin_W (g_plusUnits (th := th) hI hM hR)
theorem rel_plusUnits {S : SX} {T : SM} {n : Int64} {p0 p1 p2 c9 : Int32} {n9 : Int64} {S9 : SX} (hR : Rel S T) (h9 : H_plusUnits S n p0 p1 p2 c9 n9 S9) : Rel S9 (gX2_plusUnits T p0 p1 p2).2 := (act_plusUnits hR h9).1
