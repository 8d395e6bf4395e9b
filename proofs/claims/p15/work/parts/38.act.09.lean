theorem cmp_minusWeeks {S : SX} {T : SM} {n : Int64} {p0 p1 c9 : Int32} {n9 : Int64} {S9 : SX} (hR : Rel S T) (h9 : H_minusWeeks S n p0 p1 c9 n9 S9) : fX2_thrown (gX2_minusWeeks T p0 p1).2 = c9 ∧ (c9 = 0 → n9 = ((gX2_minusWeeks T p0 p1).1).toInt64) := (act_minusWeeks hR h9).2
theorem b1_plusDays {S : SX} {th p0 p1 : Int32} (h : ¬ (vp_in p0 6)) : gX2_plusDays (mkM th S) p0 p1 = ((0 : Int32), mkM 1 S) := by
  unfold gX2_plusDays
  rw [none_1 h]
  exact if_neg (frf_l1 _)
theorem g_plusDays {S : SX} {th p0 p1 : Int32} (hI : Inv S) (hM : vp_in p0 6) : GO 0 (gX2_plusDays (mkM th S) p0 p1) (gX0_plusDays S p0 p1) := by
  have e1 : gX2_plusDays (mkM th S) p0 p1 = gX2_onLine (mkM 0 S) p0 (p1.toInt64) (86400000000000 : Int64) := by
    unfold gX2_plusDays; rw [none_0 hM]
    exact (if_pos (by decide)).trans peta
  have e0 : gX0_plusDays S p0 p1 = gX0_goUnits S p0 (p1.toInt64) (7 : Int32) := peta
  rw [e1, e0]
  have hr := fb_rng p1
  have h1 := oL (x := p1) rfl
  rw [show (86400000000000 : Int64) = fX2_nanosOf (7 : Int32) from by decide +kernel]
  exact goUnits_eq hI hM (by decide) h1 (by omega)
theorem act_plusDays {S : SX} {T : SM} {n : Int64} {p0 p1 c9 : Int32} {n9 : Int64} {S9 : SX} (hR : Rel S T) (h9 : H_plusDays S n p0 p1 c9 n9 S9) : Rel S9 (gX2_plusDays T p0 p1).2 ∧ (fX2_thrown (gX2_plusDays T p0 p1).2 = c9 ∧ (c9 = 0 → n9 = ((gX2_plusDays T p0 p1).1).toInt64)) := by
  obtain ⟨⟨th, rfl⟩, hI⟩ := hR
  rcases h9 with ⟨h, e1, e2, e3⟩ | ⟨hM, e1, e2, e3⟩
  all_goals (have e1 := e1.symm; have e2 := e2.symm; have e3 := e3.symm; subst e1; subst e2; subst e3)
  · rw [b1_plusDays h]
    exact ⟨⟨⟨_, rfl⟩, hI⟩, rfl, fun z => absurd z (by decide)⟩
  · exact fin_W (g_plusDays (th := th) hI hM)
theorem rel_plusDays {S : SX} {T : SM} {n : Int64} {p0 p1 c9 : Int32} {n9 : Int64} {S9 : SX} (hR : Rel S T) (h9 : H_plusDays S n p0 p1 c9 n9 S9) : Rel S9 (gX2_plusDays T p0 p1).2 := (act_plusDays hR h9).1
theorem cmp_plusDays {S : SX} {T : SM} {n : Int64} {p0 p1 c9 : Int32} {n9 : Int64} {S9 : SX} (hR : Rel S T) (h9 : H_plusDays S n p0 p1 c9 n9 S9) : fX2_thrown (gX2_plusDays T p0 p1).2 = c9 ∧ (c9 = 0 → n9 = ((gX2_plusDays T p0 p1).1).toInt64) := (act_plusDays hR h9).2
theorem b1_minusDays {S : SX} {th p0 p1 : Int32} (h : ¬ (vp_in p0 6)) : gX2_minusDays (mkM th S) p0 p1 = ((0 : Int32), mkM 1 S) := by
  unfold gX2_minusDays
  rw [none_1 h]
  exact if_neg (frf_l1 _)
theorem g_minusDays {S : SX} {th p0 p1 : Int32} (hI : Inv S) (hM : vp_in p0 6) : GO 0 (gX2_minusDays (mkM th S) p0 p1) (gX0_minusDays S p0 p1) := by
  have e1 : gX2_minusDays (mkM th S) p0 p1 = gX2_onLine (mkM 0 S) p0 (-(p1.toInt64)) (86400000000000 : Int64) := by
    unfold gX2_minusDays; rw [none_0 hM]
    exact (if_pos (by decide)).trans peta
  have e0 : gX0_minusDays S p0 p1 = gX0_goUnits S p0 (-(p1.toInt64)) (7 : Int32) := peta
  rw [e1, e0]
  have hr := fb_rng p1
  have h1 := gL (oL (x := p1) rfl) (by omega)
  rw [show (86400000000000 : Int64) = fX2_nanosOf (7 : Int32) from by decide +kernel]
  exact goUnits_eq hI hM (by decide) h1 (by omega)
theorem act_minusDays {S : SX} {T : SM} {n : Int64} {p0 p1 c9 : Int32} {n9 : Int64} {S9 : SX} (hR : Rel S T) (h9 : H_minusDays S n p0 p1 c9 n9 S9) : Rel S9 (gX2_minusDays T p0 p1).2 ∧ (fX2_thrown (gX2_minusDays T p0 p1).2 = c9 ∧ (c9 = 0 → n9 = ((gX2_minusDays T p0 p1).1).toInt64)) := by
  obtain ⟨⟨th, rfl⟩, hI⟩ := hR
  rcases h9 with ⟨h, e1, e2, e3⟩ | ⟨hM, e1, e2, e3⟩
  all_goals (have e1 := e1.symm; have e2 := e2.symm; have e3 := e3.symm; subst e1; subst e2; subst e3)
  · rw [b1_minusDays h]
    exact ⟨⟨⟨_, rfl⟩, hI⟩, rfl, fun z => absurd z (by decide)⟩
  · exact fin_W (g_minusDays (th := th) hI hM)
theorem rel_minusDays {S : SX} {T : SM} {n : Int64} {p0 p1 c9 : Int32} {n9 : Int64} {S9 : SX} (hR : Rel S T) (h9 : H_minusDays S n p0 p1 c9 n9 S9) : Rel S9 (gX2_minusDays T p0 p1).2 := (act_minusDays hR h9).1
theorem cmp_minusDays {S : SX} {T : SM} {n : Int64} {p0 p1 c9 : Int32} {n9 : Int64} {S9 : SX} (hR : Rel S T) (h9 : H_minusDays S n p0 p1 c9 n9 S9) : fX2_thrown (gX2_minusDays T p0 p1).2 = c9 ∧ (c9 = 0 → n9 = ((gX2_minusDays T p0 p1).1).toInt64) := (act_minusDays hR h9).2
theorem b1_plusHours {S : SX} {th p0 p1 : Int32} (h : ¬ (vp_in p0 6)) : gX2_plusHours (mkM th S) p0 p1 = ((0 : Int32), mkM 1 S) := by
  unfold gX2_plusHours
  rw [none_1 h]
  exact if_neg (frf_l1 _)
theorem g_plusHours {S : SX} {th p0 p1 : Int32} (hI : Inv S) (hM : vp_in p0 6) : GO 0 (gX2_plusHours (mkM th S) p0 p1) (gX0_plusHours S p0 p1) := by
  have e1 : gX2_plusHours (mkM th S) p0 p1 = gX2_onLine (mkM 0 S) p0 (p1.toInt64) (fX2_nanosOf (5 : Int32)) := by
    unfold gX2_plusHours; rw [none_0 hM]
    exact (if_pos (by decide)).trans peta
  have e0 : gX0_plusHours S p0 p1 = gX0_goUnits S p0 (p1.toInt64) (5 : Int32) := peta
  rw [e1, e0]
  have hr := fb_rng p1
  have h1 := oL (x := p1) rfl
  exact goUnits_eq hI hM (by decide) h1 (by omega)
theorem act_plusHours {S : SX} {T : SM} {n : Int64} {p0 p1 c9 : Int32} {n9 : Int64} {S9 : SX} (hR : Rel S T) (h9 : H_plusHours S n p0 p1 c9 n9 S9) : Rel S9 (gX2_plusHours T p0 p1).2 ∧ (fX2_thrown (gX2_plusHours T p0 p1).2 = c9 ∧ (c9 = 0 → n9 = ((gX2_plusHours T p0 p1).1).toInt64)) := by
  obtain ⟨⟨th, rfl⟩, hI⟩ := hR
  rcases h9 with ⟨h, e1, e2, e3⟩ | ⟨hM, e1, e2, e3⟩
  all_goals (have e1 := e1.symm; have e2 := e2.symm; have e3 := e3.symm; subst e1; subst e2; subst e3)
  · rw [b1_plusHours h]
    exact ⟨⟨⟨_, rfl⟩, hI⟩, rfl, fun z => absurd z (by decide)⟩
  · exact fin_W (g_plusHours (th := th) hI hM)
theorem rel_plusHours {S : SX} {T : SM} {n : Int64} {p0 p1 c9 : Int32} {n9 : Int64} {S9 : SX} (hR : Rel S T) (h9 : H_plusHours S n p0 p1 c9 n9 S9) : Rel S9 (gX2_plusHours T p0 p1).2 := (act_plusHours hR h9).1
theorem cmp_plusHours {S : SX} {T : SM} {n : Int64} {p0 p1 c9 : Int32} {n9 : Int64} {S9 : SX} (hR : Rel S T) (h9 : H_plusHours S n p0 p1 c9 n9 S9) : fX2_thrown (gX2_plusHours T p0 p1).2 = c9 ∧ (c9 = 0 → n9 = ((gX2_plusHours T p0 p1).1).toInt64) := (act_plusHours hR h9).2
