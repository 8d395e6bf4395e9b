theorem rel_plusMonths {S : SX} {T : SM} {n : Int64} {p0 p1 c9 : Int32} {n9 : Int64} {S9 : SX} (hR : Rel S T) (h9 : H_plusMonths S n p0 p1 c9 n9 S9) : Rel S9 (gX2_plusMonths T p0 p1).2 := (act_plusMonths hR h9).1
theorem cmp_plusMonths {S : SX} {T : SM} {n : Int64} {p0 p1 c9 : Int32} {n9 : Int64} {S9 : SX} (hR : Rel S T) (h9 : H_plusMonths S n p0 p1 c9 n9 S9) : fX2_thrown (gX2_plusMonths T p0 p1).2 = c9 ∧ (c9 = 0 → n9 = ((gX2_plusMonths T p0 p1).1).toInt64) := (act_plusMonths hR h9).2
theorem b1_minusMonths {S : SX} {th p0 p1 : Int32} (h : ¬ (vp_in p0 6)) : gX2_minusMonths (mkM th S) p0 p1 = ((0 : Int32), mkM 1 S) := by
  unfold gX2_minusMonths
  rw [none_1 h]
  exact if_neg (frf_l1 _)
theorem g_minusMonths {S : SX} {th p0 p1 : Int32} (hI : Inv S) (hM : vp_in p0 6) : GO 0 (gX2_minusMonths (mkM th S) p0 p1) (gX0_minusMonths S p0 p1) := by
  have e1 : gX2_minusMonths (mkM th S) p0 p1 = gX2_onMonths (mkM 0 S) p0 (-(p1.toInt64)) := by
    unfold gX2_minusMonths; rw [none_0 hM]
    exact (if_pos (by decide)).trans peta
  have e0 : gX0_minusMonths S p0 p1 = gX0_goMonths S p0 (-(p1.toInt64)) := peta
  rw [e1, e0]
  have hr := fb_rng p1
  have hk := gL (oL (x := p1) rfl) (by omega)
  exact goMonths_eq hI hM (by rw [hk]; omega)
theorem act_minusMonths {S : SX} {T : SM} {n : Int64} {p0 p1 c9 : Int32} {n9 : Int64} {S9 : SX} (hR : Rel S T) (h9 : H_minusMonths S n p0 p1 c9 n9 S9) : Rel S9 (gX2_minusMonths T p0 p1).2 ∧ (fX2_thrown (gX2_minusMonths T p0 p1).2 = c9 ∧ (c9 = 0 → n9 = ((gX2_minusMonths T p0 p1).1).toInt64)) := by
  obtain ⟨⟨th, rfl⟩, hI⟩ := hR
  rcases h9 with ⟨h, e1, e2, e3⟩ | ⟨hM, e1, e2, e3⟩
  all_goals (have e1 := e1.symm; have e2 := e2.symm; have e3 := e3.symm; subst e1; subst e2; subst e3)
  · rw [b1_minusMonths h]
    exact ⟨⟨⟨_, rfl⟩, hI⟩, rfl, fun z => absurd z (by decide)⟩
  · exact fin_W (g_minusMonths (th := th) hI hM)
theorem rel_minusMonths {S : SX} {T : SM} {n : Int64} {p0 p1 c9 : Int32} {n9 : Int64} {S9 : SX} (hR : Rel S T) (h9 : H_minusMonths S n p0 p1 c9 n9 S9) : Rel S9 (gX2_minusMonths T p0 p1).2 := (act_minusMonths hR h9).1
theorem cmp_minusMonths {S : SX} {T : SM} {n : Int64} {p0 p1 c9 : Int32} {n9 : Int64} {S9 : SX} (hR : Rel S T) (h9 : H_minusMonths S n p0 p1 c9 n9 S9) : fX2_thrown (gX2_minusMonths T p0 p1).2 = c9 ∧ (c9 = 0 → n9 = ((gX2_minusMonths T p0 p1).1).toInt64) := (act_minusMonths hR h9).2
theorem b1_plusWeeks {S : SX} {th p0 p1 : Int32} (h : ¬ (vp_in p0 6)) : gX2_plusWeeks (mkM th S) p0 p1 = ((0 : Int32), mkM 1 S) := by
  unfold gX2_plusWeeks
  rw [none_1 h]
  exact if_neg (frf_l1 _)
theorem g_plusWeeks {S : SX} {th p0 p1 : Int32} (hI : Inv S) (hM : vp_in p0 6) : GO 0 (gX2_plusWeeks (mkM th S) p0 p1) (gX0_plusWeeks S p0 p1) := by
  have e1 : gX2_plusWeeks (mkM th S) p0 p1 = gX2_onLine (mkM 0 S) p0 ((7 : Int64) * (p1.toInt64)) (86400000000000 : Int64) := by
    unfold gX2_plusWeeks; rw [none_0 hM]
    exact (if_pos (by decide)).trans peta
  have e0 : gX0_plusWeeks S p0 p1 = gX0_goUnits S p0 (p1.toInt64) (8 : Int32) := peta
  rw [e1, e0]
  have hr := fb_rng p1
  have h1 := oL (x := p1) rfl
  exact weeks_eq hI hM (mL (show (7 : Int64).toInt = 7 from by decide) h1 (by omega)) h1 (by omega)
theorem act_plusWeeks {S : SX} {T : SM} {n : Int64} {p0 p1 c9 : Int32} {n9 : Int64} {S9 : SX} (hR : Rel S T) (h9 : H_plusWeeks S n p0 p1 c9 n9 S9) : Rel S9 (gX2_plusWeeks T p0 p1).2 ∧ (fX2_thrown (gX2_plusWeeks T p0 p1).2 = c9 ∧ (c9 = 0 → n9 = ((gX2_plusWeeks T p0 p1).1).toInt64)) := by
  obtain ⟨⟨th, rfl⟩, hI⟩ := hR
  rcases h9 with ⟨h, e1, e2, e3⟩ | ⟨hM, e1, e2, e3⟩
  all_goals (have e1 := e1.symm; have e2 := e2.symm; have e3 := e3.symm; subst e1; subst e2; subst e3)
  · rw [b1_plusWeeks h]
    exact ⟨⟨⟨_, rfl⟩, hI⟩, rfl, fun z => absurd z (by decide)⟩
  · exact fin_W (g_plusWeeks (th := th) hI hM)
theorem rel_plusWeeks {S : SX} {T : SM} {n : Int64} {p0 p1 c9 : Int32} {n9 : Int64} {S9 : SX} (hR : Rel S T) (h9 : H_plusWeeks S n p0 p1 c9 n9 S9) : Rel S9 (gX2_plusWeeks T p0 p1).2 := (act_plusWeeks hR h9).1
theorem cmp_plusWeeks {S : SX} {T : SM} {n : Int64} {p0 p1 c9 : Int32} {n9 : Int64} {S9 : SX} (hR : Rel S T) (h9 : H_plusWeeks S n p0 p1 c9 n9 S9) : fX2_thrown (gX2_plusWeeks T p0 p1).2 = c9 ∧ (c9 = 0 → n9 = ((gX2_plusWeeks T p0 p1).1).toInt64) := (act_plusWeeks hR h9).2
theorem b1_minusWeeks {S : SX} {th p0 p1 : Int32} (h : ¬ (vp_in p0 6)) : gX2_minusWeeks (mkM th S) p0 p1 = ((0 : Int32), mkM 1 S) := by
  unfold gX2_minusWeeks
  rw [none_1 h]
  exact if_neg (frf_l1 _)
theorem g_minusWeeks {S : SX} {th p0 p1 : Int32} (hI : Inv S) (hM : vp_in p0 6) : GO 0 (gX2_minusWeeks (mkM th S) p0 p1) (gX0_minusWeeks S p0 p1) := by
  have e1 : gX2_minusWeeks (mkM th S) p0 p1 = gX2_onLine (mkM 0 S) p0 ((-7 : Int64) * (p1.toInt64)) (86400000000000 : Int64) := by
    unfold gX2_minusWeeks; rw [none_0 hM]
    exact (if_pos (by decide)).trans peta
  have e0 : gX0_minusWeeks S p0 p1 = gX0_goUnits S p0 (-(p1.toInt64)) (8 : Int32) := peta
  rw [e1, e0]
  have hr := fb_rng p1
  have h1 := oL (x := p1) rfl
  have h2 := gL h1 (by omega)
  have h3 := mL (show (-7 : Int64).toInt = -7 from by decide) h1 (by omega)
  exact weeks_eq hI hM (h3.trans (by omega)) h2 (by omega)
theorem act_minusWeeks {S : SX} {T : SM} {n : Int64} {p0 p1 c9 : Int32} {n9 : Int64} {S9 : SX} (hR : Rel S T) (h9 : H_minusWeeks S n p0 p1 c9 n9 S9) : Rel S9 (gX2_minusWeeks T p0 p1).2 ∧ (fX2_thrown (gX2_minusWeeks T p0 p1).2 = c9 ∧ (c9 = 0 → n9 = ((gX2_minusWeeks T p0 p1).1).toInt64)) := by
  obtain ⟨⟨th, rfl⟩, hI⟩ := hR
  rcases h9 with ⟨h, e1, e2, e3⟩ | ⟨hM, e1, e2, e3⟩
  all_goals (have e1 := e1.symm; have e2 := e2.symm; have e3 := e3.symm; subst e1; subst e2; subst e3)
  · rw [b1_minusWeeks h]
    exact ⟨⟨⟨_, rfl⟩, hI⟩, rfl, fun z => absurd z (by decide)⟩
  · exact fin_W (g_minusWeeks (th := th) hI hM)
theorem rel_minusWeeks {S : SX} {T : SM} {n : Int64} {p0 p1 c9 : Int32} {n9 : Int64} {S9 : SX} (hR : Rel S T) (h9 : H_minusWeeks S n p0 p1 c9 n9 S9) : Rel S9 (gX2_minusWeeks T p0 p1).2 := (act_minusWeeks hR h9).1
