theorem b1_minusHours {S : SX} {th p0 p1 : Int32} (h : ¬ (vp_in p0 6)) : gX2_minusHours (mkM th S) p0 p1 = ((0 : Int32), mkM 1 S) := by
  unfold gX2_minusHours
  rw [none_1 h]
  exact if_neg (frf_l1 _)
theorem g_minusHours {S : SX} {th p0 p1 : Int32} (hI : Inv S) (hM : vp_in p0 6) : GO 0 (gX2_minusHours (mkM th S) p0 p1) (gX0_minusHours S p0 p1) := by
  have e1 : gX2_minusHours (mkM th S) p0 p1 = gX2_onLine (mkM 0 S) p0 (-(p1.toInt64)) (fX2_nanosOf (5 : Int32)) := by
    unfold gX2_minusHours; rw [none_0 hM]
    exact (if_pos (by decide)).trans peta
  have e0 : gX0_minusHours S p0 p1 = gX0_goUnits S p0 (-(p1.toInt64)) (5 : Int32) := peta
  rw [e1, e0]
  have hr := fb_rng p1
  have h1 := gL (oL (x := p1) rfl) (by omega)
  exact goUnits_eq hI hM (by decide) h1 (by omega)
theorem act_minusHours {S : SX} {T : SM} {n : Int64} {p0 p1 c9 : Int32} {n9 : Int64} {S9 : SX} (hR : Rel S T) (h9 : H_minusHours S n p0 p1 c9 n9 S9) : Rel S9 (gX2_minusHours T p0 p1).2 ∧ (fX2_thrown (gX2_minusHours T p0 p1).2 = c9 ∧ (c9 = 0 → n9 = ((gX2_minusHours T p0 p1).1).toInt64)) := by
  obtain ⟨⟨th, rfl⟩, hI⟩ := hR
  rcases h9 with ⟨h, e1, e2, e3⟩ | ⟨hM, e1, e2, e3⟩
  all_goals (have e1 := e1.symm; have e2 := e2.symm; have e3 := e3.symm; subst e1; subst e2; subst e3)
  · rw [b1_minusHours h]
    exact ⟨⟨⟨_, rfl⟩, hI⟩, rfl, fun z => absurd z (by decide)⟩
  · exact fin_W (g_minusHours (th := th) hI hM)
theorem rel_minusHours {S : SX} {T : SM} {n : Int64} {p0 p1 c9 : Int32} {n9 : Int64} {S9 : SX} (hR : Rel S T) (h9 : H_minusHours S n p0 p1 c9 n9 S9) : Rel S9 (gX2_minusHours T p0 p1).2 := (act_minusHours hR h9).1
theorem cmp_minusHours {S : SX} {T : SM} {n : Int64} {p0 p1 c9 : Int32} {n9 : Int64} {S9 : SX} (hR : Rel S T) (h9 : H_minusHours S n p0 p1 c9 n9 S9) : fX2_thrown (gX2_minusHours T p0 p1).2 = c9 ∧ (c9 = 0 → n9 = ((gX2_minusHours T p0 p1).1).toInt64) := (act_minusHours hR h9).2
theorem b1_plusMinutes {S : SX} {th p0 p1 : Int32} (h : ¬ (vp_in p0 6)) : gX2_plusMinutes (mkM th S) p0 p1 = ((0 : Int32), mkM 1 S) := by
  unfold gX2_plusMinutes
  rw [none_1 h]
  exact if_neg (frf_l1 _)
theorem g_plusMinutes {S : SX} {th p0 p1 : Int32} (hI : Inv S) (hM : vp_in p0 6) : GO 0 (gX2_plusMinutes (mkM th S) p0 p1) (gX0_plusMinutes S p0 p1) := by
  have e1 : gX2_plusMinutes (mkM th S) p0 p1 = gX2_onLine (mkM 0 S) p0 (p1.toInt64) (fX2_nanosOf (4 : Int32)) := by
    unfold gX2_plusMinutes; rw [none_0 hM]
    exact (if_pos (by decide)).trans peta
  have e0 : gX0_plusMinutes S p0 p1 = gX0_goUnits S p0 (p1.toInt64) (4 : Int32) := peta
  rw [e1, e0]
  have hr := fb_rng p1
  have h1 := oL (x := p1) rfl
  exact goUnits_eq hI hM (by decide) h1 (by omega)
theorem act_plusMinutes {S : SX} {T : SM} {n : Int64} {p0 p1 c9 : Int32} {n9 : Int64} {S9 : SX} (hR : Rel S T) (h9 : H_plusMinutes S n p0 p1 c9 n9 S9) : Rel S9 (gX2_plusMinutes T p0 p1).2 ∧ (fX2_thrown (gX2_plusMinutes T p0 p1).2 = c9 ∧ (c9 = 0 → n9 = ((gX2_plusMinutes T p0 p1).1).toInt64)) := by
  obtain ⟨⟨th, rfl⟩, hI⟩ := hR
  rcases h9 with ⟨h, e1, e2, e3⟩ | ⟨hM, e1, e2, e3⟩
  all_goals (have e1 := e1.symm; have e2 := e2.symm; have e3 := e3.symm; subst e1; subst e2; subst e3)
  · rw [b1_plusMinutes h]
    exact ⟨⟨⟨_, rfl⟩, hI⟩, rfl, fun z => absurd z (by decide)⟩
  · exact fin_W (g_plusMinutes (th := th) hI hM)
theorem rel_plusMinutes {S : SX} {T : SM} {n : Int64} {p0 p1 c9 : Int32} {n9 : Int64} {S9 : SX} (hR : Rel S T) (h9 : H_plusMinutes S n p0 p1 c9 n9 S9) : Rel S9 (gX2_plusMinutes T p0 p1).2 := (act_plusMinutes hR h9).1
theorem cmp_plusMinutes {S : SX} {T : SM} {n : Int64} {p0 p1 c9 : Int32} {n9 : Int64} {S9 : SX} (hR : Rel S T) (h9 : H_plusMinutes S n p0 p1 c9 n9 S9) : fX2_thrown (gX2_plusMinutes T p0 p1).2 = c9 ∧ (c9 = 0 → n9 = ((gX2_plusMinutes T p0 p1).1).toInt64) := (act_plusMinutes hR h9).2
theorem b1_minusMinutes {S : SX} {th p0 p1 : Int32} (h : ¬ (vp_in p0 6)) : gX2_minusMinutes (mkM th S) p0 p1 = ((0 : Int32), mkM 1 S) := by
  unfold gX2_minusMinutes
  rw [none_1 h]
  exact if_neg (frf_l1 _)
theorem g_minusMinutes {S : SX} {th p0 p1 : Int32} (hI : Inv S) (hM : vp_in p0 6) : GO 0 (gX2_minusMinutes (mkM th S) p0 p1) (gX0_minusMinutes S p0 p1) := by
  have e1 : gX2_minusMinutes (mkM th S) p0 p1 = gX2_onLine (mkM 0 S) p0 (-(p1.toInt64)) (fX2_nanosOf (4 : Int32)) := by
    unfold gX2_minusMinutes; rw [none_0 hM]
    exact (if_pos (by decide)).trans peta
  have e0 : gX0_minusMinutes S p0 p1 = gX0_goUnits S p0 (-(p1.toInt64)) (4 : Int32) := peta
  rw [e1, e0]
  have hr := fb_rng p1
  have h1 := gL (oL (x := p1) rfl) (by omega)
  exact goUnits_eq hI hM (by decide) h1 (by omega)
theorem act_minusMinutes {S : SX} {T : SM} {n : Int64} {p0 p1 c9 : Int32} {n9 : Int64} {S9 : SX} (hR : Rel S T) (h9 : H_minusMinutes S n p0 p1 c9 n9 S9) : Rel S9 (gX2_minusMinutes T p0 p1).2 ∧ (fX2_thrown (gX2_minusMinutes T p0 p1).2 = c9 ∧ (c9 = 0 → n9 = ((gX2_minusMinutes T p0 p1).1).toInt64)) := by
  obtain ⟨⟨th, rfl⟩, hI⟩ := hR
  rcases h9 with ⟨h, e1, e2, e3⟩ | ⟨hM, e1, e2, e3⟩
  all_goals (have e1 := e1.symm; have e2 := e2.symm; have e3 := e3.symm; subst e1; subst e2; subst e3)
  · rw [b1_minusMinutes h]
    exact ⟨⟨⟨_, rfl⟩, hI⟩, rfl, fun z => absurd z (by decide)⟩
  · exact fin_W (g_minusMinutes (th := th) hI hM)
theorem rel_minusMinutes {S : SX} {T : SM} {n : Int64} {p0 p1 c9 : Int32} {n9 : Int64} {S9 : SX} (hR : Rel S T) (h9 : H_minusMinutes S n p0 p1 c9 n9 S9) : Rel S9 (gX2_minusMinutes T p0 p1).2 := (act_minusMinutes hR h9).1
theorem cmp_minusMinutes {S : SX} {T : SM} {n : Int64} {p0 p1 c9 : Int32} {n9 : Int64} {S9 : SX} (hR : Rel S T) (h9 : H_minusMinutes S n p0 p1 c9 n9 S9) : fX2_thrown (gX2_minusMinutes T p0 p1).2 = c9 ∧ (c9 = 0 → n9 = ((gX2_minusMinutes T p0 p1).1).toInt64) := (act_minusMinutes hR h9).2
theorem b1_plusSeconds {S : SX} {th p0 p1 : Int32} (h : ¬ (vp_in p0 6)) : gX2_plusSeconds (mkM th S) p0 p1 = ((0 : Int32), mkM 1 S) := by
  unfold gX2_plusSeconds
  rw [none_1 h]
  exact if_neg (frf_l1 _)
