theorem g_plusYears {S : SX} {th p0 p1 : Int32} (hI : Inv S) (hM : vp_in p0 6) (hR : (¬ p1 < (-100000000 : Int32) ∧ p1 ≤ (100000000 : Int32))) : GO 0 (gX2_plusYears (mkM th S) p0 p1) (gX0_plusYears S p0 p1) := by
  have e1 : gX2_plusYears (mkM th S) p0 p1 = gX2_onMonths (mkM 0 S) p0 ((12 : Int64) * (p1.toInt64)) := by
    unfold gX2_plusYears; rw [none_0 hM, from_1 hR.1 hR.2]
    exact (if_pos (by decide)).trans peta
  have e0 : gX0_plusYears S p0 p1 = gX0_goMonths S p0 ((12 : Int64) * (p1.toInt64)) := peta
  rw [e1, e0]
  have hr := (rg hR (by decide : (-100000000 : Int32).toInt = -100000000) (by decide : (100000000 : Int32).toInt = 100000000))
  have hk := mL (show (12 : Int64).toInt = 12 from by decide) (oL (x := p1) rfl) (by omega)
  exact goMonths_eq hI hM (by rw [hk]; omega)
theorem act_plusYears {S : SX} {T : SM} {n : Int64} {p0 p1 c9 : Int32} {n9 : Int64} {S9 : SX} (hR : Rel S T) (h9 : H_plusYears S n p0 p1 c9 n9 S9) : Rel S9 (gX2_plusYears T p0 p1).2 ∧ (fX2_thrown (gX2_plusYears T p0 p1).2 = c9 ∧ (c9 = 0 → n9 = ((gX2_plusYears T p0 p1).1).toInt64)) := by
  obtain ⟨⟨th, rfl⟩, hI⟩ := hR
  rcases h9 with ⟨h, e1, e2, e3⟩ | ⟨hM, h, e1, e2, e3⟩ | ⟨hM, hR, e1, e2, e3⟩
  all_goals (have e1 := e1.symm; have e2 := e2.symm; have e3 := e3.symm; subst e1; subst e2; subst e3)
  · rw [b1_plusYears h]
    exact ⟨⟨⟨_, rfl⟩, hI⟩, rfl, fun z => absurd z (by decide)⟩
  · rw [b2_plusYears hM h]
    exact ⟨⟨⟨_, rfl⟩, hI⟩, rfl, fun z => absurd z (by decide)⟩
  · exact fin_W (g_plusYears (th := th) hI hM hR)
theorem rel_plusYears {S : SX} {T : SM} {n : Int64} {p0 p1 c9 : Int32} {n9 : Int64} {S9 : SX} (hR : Rel S T) (h9 : H_plusYears S n p0 p1 c9 n9 S9) : Rel S9 (gX2_plusYears T p0 p1).2 := (act_plusYears hR h9).1
theorem cmp_plusYears {S : SX} {T : SM} {n : Int64} {p0 p1 c9 : Int32} {n9 : Int64} {S9 : SX} (hR : Rel S T) (h9 : H_plusYears S n p0 p1 c9 n9 S9) : fX2_thrown (gX2_plusYears T p0 p1).2 = c9 ∧ (c9 = 0 → n9 = ((gX2_plusYears T p0 p1).1).toInt64) := (act_plusYears hR h9).2
theorem b1_minusYears {S : SX} {th p0 p1 : Int32} (h : ¬ (vp_in p0 6)) : gX2_minusYears (mkM th S) p0 p1 = ((0 : Int32), mkM 1 S) := by
  unfold gX2_minusYears
  rw [none_1 h]
  exact if_neg (frf_l1 _)
theorem b2_minusYears {S : SX} {th p0 p1 : Int32} (hM : vp_in p0 6) (h : ¬ ((¬ p1 < (-100000000 : Int32) ∧ p1 ≤ (100000000 : Int32)))) : gX2_minusYears (mkM th S) p0 p1 = ((0 : Int32), mkM 2 S) := by
  unfold gX2_minusYears
  rw [none_0 hM, from_0 h]
  exact if_neg (by decide)
theorem g_minusYears {S : SX} {th p0 p1 : Int32} (hI : Inv S) (hM : vp_in p0 6) (hR : (¬ p1 < (-100000000 : Int32) ∧ p1 ≤ (100000000 : Int32))) : GO 0 (gX2_minusYears (mkM th S) p0 p1) (gX0_minusYears S p0 p1) := by
  have e1 : gX2_minusYears (mkM th S) p0 p1 = gX2_onMonths (mkM 0 S) p0 ((-12 : Int64) * (p1.toInt64)) := by
    unfold gX2_minusYears; rw [none_0 hM, from_1 hR.1 hR.2]
    exact (if_pos (by decide)).trans peta
  have e0 : gX0_minusYears S p0 p1 = gX0_goMonths S p0 ((-12 : Int64) * (p1.toInt64)) := peta
  rw [e1, e0]
  have hr := (rg hR (by decide : (-100000000 : Int32).toInt = -100000000) (by decide : (100000000 : Int32).toInt = 100000000))
  have hk := mL (show (-12 : Int64).toInt = -12 from by decide) (oL (x := p1) rfl) (by omega)
  exact goMonths_eq hI hM (by rw [hk]; omega)
theorem act_minusYears {S : SX} {T : SM} {n : Int64} {p0 p1 c9 : Int32} {n9 : Int64} {S9 : SX} (hR : Rel S T) (h9 : H_minusYears S n p0 p1 c9 n9 S9) : Rel S9 (gX2_minusYears T p0 p1).2 ∧ (fX2_thrown (gX2_minusYears T p0 p1).2 = c9 ∧ (c9 = 0 → n9 = ((gX2_minusYears T p0 p1).1).toInt64)) := by
  obtain ⟨⟨th, rfl⟩, hI⟩ := hR
  rcases h9 with ⟨h, e1, e2, e3⟩ | ⟨hM, h, e1, e2, e3⟩ | ⟨hM, hR, e1, e2, e3⟩
  all_goals (have e1 := e1.symm; have e2 := e2.symm; have e3 := e3.symm; subst e1; subst e2; subst e3)
  · rw [b1_minusYears h]
    exact ⟨⟨⟨_, rfl⟩, hI⟩, rfl, fun z => absurd z (by decide)⟩
  · rw [b2_minusYears hM h]
    exact ⟨⟨⟨_, rfl⟩, hI⟩, rfl, fun z => absurd z (by decide)⟩
  · exact fin_W (g_minusYears (th := th) hI hM hR)
theorem rel_minusYears {S : SX} {T : SM} {n : Int64} {p0 p1 c9 : Int32} {n9 : Int64} {S9 : SX} (hR : Rel S T) (h9 : H_minusYears S n p0 p1 c9 n9 S9) : Rel S9 (gX2_minusYears T p0 p1).2 := (act_minusYears hR h9).1
theorem cmp_minusYears {S : SX} {T : SM} {n : Int64} {p0 p1 c9 : Int32} {n9 : Int64} {S9 : SX} (hR : Rel S T) (h9 : H_minusYears S n p0 p1 c9 n9 S9) : fX2_thrown (gX2_minusYears T p0 p1).2 = c9 ∧ (c9 = 0 → n9 = ((gX2_minusYears T p0 p1).1).toInt64) := (act_minusYears hR h9).2
theorem b1_plusMonths {S : SX} {th p0 p1 : Int32} (h : ¬ (vp_in p0 6)) : gX2_plusMonths (mkM th S) p0 p1 = ((0 : Int32), mkM 1 S) := by
  unfold gX2_plusMonths
  rw [none_1 h]
  exact if_neg (frf_l1 _)
theorem g_plusMonths {S : SX} {th p0 p1 : Int32} (hI : Inv S) (hM : vp_in p0 6) : GO 0 (gX2_plusMonths (mkM th S) p0 p1) (gX0_plusMonths S p0 p1) := by
  have e1 : gX2_plusMonths (mkM th S) p0 p1 = gX2_onMonths (mkM 0 S) p0 (p1.toInt64) := by
    unfold gX2_plusMonths; rw [none_0 hM]
    exact (if_pos (by decide)).trans peta
  have e0 : gX0_plusMonths S p0 p1 = gX0_goMonths S p0 (p1.toInt64) := peta
  rw [e1, e0]
  have hr := fb_rng p1
  have hk := oL (x := p1) rfl
  exact goMonths_eq hI hM (by rw [hk]; omega)
theorem act_plusMonths {S : SX} {T : SM} {n : Int64} {p0 p1 c9 : Int32} {n9 : Int64} {S9 : SX} (hR : Rel S T) (h9 : H_plusMonths S n p0 p1 c9 n9 S9) : Rel S9 (gX2_plusMonths T p0 p1).2 ∧ (fX2_thrown (gX2_plusMonths T p0 p1).2 = c9 ∧ (c9 = 0 → n9 = ((gX2_plusMonths T p0 p1).1).toInt64)) := by
  obtain ⟨⟨th, rfl⟩, hI⟩ := hR
  rcases h9 with ⟨h, e1, e2, e3⟩ | ⟨hM, e1, e2, e3⟩
  all_goals (have e1 := e1.symm; have e2 := e2.symm; have e3 := e3.symm; subst e1; subst e2; subst e3)
  · rw [b1_plusMonths h]
    exact ⟨⟨⟨_, rfl⟩, hI⟩, rfl, fun z => absurd z (by decide)⟩
  · exact fin_W (g_plusMonths (th := th) hI hM)
