theorem g_plusSeconds {S : SX} {th p0 p1 : Int32} (hI : Inv S) (hM : vp_in p0 6) : GO 0 (gX2_plusSeconds (mkM th S) p0 p1) (gX0_plusSeconds S p0 p1) := by
  have e1 : gX2_plusSeconds (mkM th S) p0 p1 = gX2_onLine (mkM 0 S) p0 (p1.toInt64) (1000000000 : Int64) := by
    unfold gX2_plusSeconds; rw [none_0 hM]
    exact (if_pos (by decide)).trans peta
  have e0 : gX0_plusSeconds S p0 p1 = gX0_goUnits S p0 (p1.toInt64) (3 : Int32) := peta
  rw [e1, e0]
  have hr := fb_rng p1
  have h1 := oL (x := p1) rfl
  rw [show (1000000000 : Int64) = fX2_nanosOf (3 : Int32) from by decide +kernel]
  exact goUnits_eq hI hM (by decide) h1 (by omega)
theorem act_plusSeconds {S : SX} {T : SM} {n : Int64} {p0 p1 c9 : Int32} {n9 : Int64} {S9 : SX} (hR : Rel S T) (h9 : H_plusSeconds S n p0 p1 c9 n9 S9) : Rel S9 (gX2_plusSeconds T p0 p1).2 ∧ (fX2_thrown (gX2_plusSeconds T p0 p1).2 = c9 ∧ (c9 = 0 → n9 = ((gX2_plusSeconds T p0 p1).1).toInt64)) := by
  obtain ⟨⟨th, rfl⟩, hI⟩ := hR
  rcases h9 with ⟨h, e1, e2, e3⟩ | ⟨hM, e1, e2, e3⟩
  all_goals (have e1 := e1.symm; have e2 := e2.symm; have e3 := e3.symm; subst e1; subst e2; subst e3)
  · rw [b1_plusSeconds h]
    exact ⟨⟨⟨_, rfl⟩, hI⟩, rfl, fun z => absurd z (by decide)⟩
  · exact fin_W (g_plusSeconds (th := th) hI hM)
theorem rel_plusSeconds {S : SX} {T : SM} {n : Int64} {p0 p1 c9 : Int32} {n9 : Int64} {S9 : SX} (hR : Rel S T) (h9 : H_plusSeconds S n p0 p1 c9 n9 S9) : Rel S9 (gX2_plusSeconds T p0 p1).2 := (act_plusSeconds hR h9).1
theorem cmp_plusSeconds {S : SX} {T : SM} {n : Int64} {p0 p1 c9 : Int32} {n9 : Int64} {S9 : SX} (hR : Rel S T) (h9 : H_plusSeconds S n p0 p1 c9 n9 S9) : fX2_thrown (gX2_plusSeconds T p0 p1).2 = c9 ∧ (c9 = 0 → n9 = ((gX2_plusSeconds T p0 p1).1).toInt64) := (act_plusSeconds hR h9).2
theorem b1_minusSeconds {S : SX} {th p0 p1 : Int32} (h : ¬ (vp_in p0 6)) : gX2_minusSeconds (mkM th S) p0 p1 = ((0 : Int32), mkM 1 S) := by
  unfold gX2_minusSeconds
  rw [none_1 h]
  exact if_neg (frf_l1 _)
theorem g_minusSeconds {S : SX} {th p0 p1 : Int32} (hI : Inv S) (hM : vp_in p0 6) : GO 0 (gX2_minusSeconds (mkM th S) p0 p1) (gX0_minusSeconds S p0 p1) := by
  have e1 : gX2_minusSeconds (mkM th S) p0 p1 = gX2_onLine (mkM 0 S) p0 (-(p1.toInt64)) (1000000000 : Int64) := by
    unfold gX2_minusSeconds; rw [none_0 hM]
    exact (if_pos (by decide)).trans peta
  have e0 : gX0_minusSeconds S p0 p1 = gX0_goUnits S p0 (-(p1.toInt64)) (3 : Int32) := peta
  rw [e1, e0]
  have hr := fb_rng p1
  have h1 := gL (oL (x := p1) rfl) (by omega)
  rw [show (1000000000 : Int64) = fX2_nanosOf (3 : Int32) from by decide +kernel]
  exact goUnits_eq hI hM (by decide) h1 (by omega)
theorem act_minusSeconds {S : SX} {T : SM} {n : Int64} {p0 p1 c9 : Int32} {n9 : Int64} {S9 : SX} (hR : Rel S T) (h9 : H_minusSeconds S n p0 p1 c9 n9 S9) : Rel S9 (gX2_minusSeconds T p0 p1).2 ∧ (fX2_thrown (gX2_minusSeconds T p0 p1).2 = c9 ∧ (c9 = 0 → n9 = ((gX2_minusSeconds T p0 p1).1).toInt64)) := by
  obtain ⟨⟨th, rfl⟩, hI⟩ := hR
  rcases h9 with ⟨h, e1, e2, e3⟩ | ⟨hM, e1, e2, e3⟩
  all_goals (have e1 := e1.symm; have e2 := e2.symm; have e3 := e3.symm; subst e1; subst e2; subst e3)
  · rw [b1_minusSeconds h]
    exact ⟨⟨⟨_, rfl⟩, hI⟩, rfl, fun z => absurd z (by decide)⟩
  · exact fin_W (g_minusSeconds (th := th) hI hM)
theorem rel_minusSeconds {S : SX} {T : SM} {n : Int64} {p0 p1 c9 : Int32} {n9 : Int64} {S9 : SX} (hR : Rel S T) (h9 : H_minusSeconds S n p0 p1 c9 n9 S9) : Rel S9 (gX2_minusSeconds T p0 p1).2 := (act_minusSeconds hR h9).1
theorem cmp_minusSeconds {S : SX} {T : SM} {n : Int64} {p0 p1 c9 : Int32} {n9 : Int64} {S9 : SX} (hR : Rel S T) (h9 : H_minusSeconds S n p0 p1 c9 n9 S9) : fX2_thrown (gX2_minusSeconds T p0 p1).2 = c9 ∧ (c9 = 0 → n9 = ((gX2_minusSeconds T p0 p1).1).toInt64) := (act_minusSeconds hR h9).2
theorem b1_plusNanos {S : SX} {th p0 p1 p2 : Int32} (h : ¬ (vp_in p0 6)) : gX2_plusNanos (mkM th S) p0 p1 p2 = ((0 : Int32), mkM 1 S) := by
  unfold gX2_plusNanos
  rw [none_1 h]
  exact if_neg (frf_l1 _)
theorem g_plusNanos {S : SX} {th p0 p1 p2 : Int32} (hI : Inv S) (hM : vp_in p0 6) : GO 0 (gX2_plusNanos (mkM th S) p0 p1 p2) (gX0_plusNanos S p0 p1 p2) := by
  have e1 : gX2_plusNanos (mkM th S) p0 p1 p2 = gX2_onLine (mkM 0 S) p0 (((p1.toInt64) * (1000000000 : Int64)) + (p2.toInt64)) (1 : Int64) := by
    unfold gX2_plusNanos; rw [none_0 hM]
    exact (if_pos (by decide)).trans peta
  have e0 : gX0_plusNanos S p0 p1 p2 = gX0_goLine S p0 (0 : Int64) (((p1.toInt64) * (1000000000 : Int64)) + (p2.toInt64)) := peta
  rw [e1, e0]
  have hr := fb_rng p1
  have hr2 := fb_rng p2
  have h1 := aL (mL (oL (x := p1) rfl) l1e9 (by omega)) (oL (x := p2) rfl) (by omega)
  exact nano_line hI hM h1 (by omega)
theorem act_plusNanos {S : SX} {T : SM} {n : Int64} {p0 p1 p2 c9 : Int32} {n9 : Int64} {S9 : SX} (hR : Rel S T) (h9 : H_plusNanos S n p0 p1 p2 c9 n9 S9) : Rel S9 (gX2_plusNanos T p0 p1 p2).2 ∧ (fX2_thrown (gX2_plusNanos T p0 p1 p2).2 = c9 ∧ (c9 = 0 → n9 = ((gX2_plusNanos T p0 p1 p2).1).toInt64)) := by
  obtain ⟨⟨th, rfl⟩, hI⟩ := hR
  rcases h9 with ⟨h, e1, e2, e3⟩ | ⟨hM, e1, e2, e3⟩
  all_goals (have e1 := e1.symm; have e2 := e2.symm; have e3 := e3.symm; subst e1; subst e2; subst e3)
  · rw [b1_plusNanos h]
    exact ⟨⟨⟨_, rfl⟩, hI⟩, rfl, fun z => absurd z (by decide)⟩
  · exact fin_W (g_plusNanos (th := th) hI hM)
theorem rel_plusNanos {S : SX} {T : SM} {n : Int64} {p0 p1 p2 c9 : Int32} {n9 : Int64} {S9 : SX} (hR : Rel S T) (h9 : H_plusNanos S n p0 p1 p2 c9 n9 S9) : Rel S9 (gX2_plusNanos T p0 p1 p2).2 := (act_plusNanos hR h9).1
theorem cmp_plusNanos {S : SX} {T : SM} {n : Int64} {p0 p1 p2 c9 : Int32} {n9 : Int64} {S9 : SX} (hR : Rel S T) (h9 : H_plusNanos S n p0 p1 p2 c9 n9 S9) : fX2_thrown (gX2_plusNanos T p0 p1 p2).2 = c9 ∧ (c9 = 0 → n9 = ((gX2_plusNanos T p0 p1 p2).1).toInt64) := (act_plusNanos hR h9).2
