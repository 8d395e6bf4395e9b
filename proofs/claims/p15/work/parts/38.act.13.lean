theorem cmp_plusUnits {S : SX} {T : SM} {n : Int64} {p0 p1 p2 c9 : Int32} {n9 : Int64} {S9 : SX} (hR : Rel S T) (h9 : H_plusUnits S n p0 p1 p2 c9 n9 S9) : fX2_thrown (gX2_plusUnits T p0 p1 p2).2 = c9 ∧ (c9 = 0 → n9 = ((gX2_plusUnits T p0 p1 p2).1).toInt64) := (act_plusUnits hR h9).2
theorem b1_year {S : SX} {th p0 : Int32} (h : ¬ (vp_in p0 6)) : gX2_year (mkM th S) p0 = ((0 : Int32), mkM 1 S) := by
  unfold gX2_year
  rw [none_1 h]
  exact if_neg (frf_l1 _)
theorem g_year {S : SX} {th p0 : Int32} (hI : Inv S) (hM : vp_in p0 6) : gX2_year (mkM th S) p0 = (fX0_year S p0, mkM 0 S) := by
  unfold gX2_year; rw [none_0 hM]
  refine (if_pos (by decide)).trans ?_
  rfl
theorem act_year {S : SX} {T : SM} {n : Int64} {p0 c9 : Int32} {n9 : Int64} {S9 : SX} (hR : Rel S T) (h9 : H_year S n p0 c9 n9 S9) : Rel S9 (gX2_year T p0).2 ∧ (fX2_thrown (gX2_year T p0).2 = c9 ∧ (c9 = 0 → n9 = ((gX2_year T p0).1).toInt64)) := by
  obtain ⟨⟨th, rfl⟩, hI⟩ := hR
  rcases h9 with ⟨h, e1, e2, e3⟩ | ⟨hM, e1, e2, e3⟩
  all_goals (have e1 := e1.symm; have e2 := e2.symm; have e3 := e3.symm; subst e1; subst e2; subst e3)
  · rw [b1_year h]
    exact ⟨⟨⟨_, rfl⟩, hI⟩, rfl, fun z => absurd z (by decide)⟩
  · rw [g_year (th := th) hI hM]
    exact ⟨⟨⟨0, rfl⟩, hI⟩, rfl, fun _ => rfl⟩
theorem rel_year {S : SX} {T : SM} {n : Int64} {p0 c9 : Int32} {n9 : Int64} {S9 : SX} (hR : Rel S T) (h9 : H_year S n p0 c9 n9 S9) : Rel S9 (gX2_year T p0).2 := (act_year hR h9).1
theorem cmp_year {S : SX} {T : SM} {n : Int64} {p0 c9 : Int32} {n9 : Int64} {S9 : SX} (hR : Rel S T) (h9 : H_year S n p0 c9 n9 S9) : fX2_thrown (gX2_year T p0).2 = c9 ∧ (c9 = 0 → n9 = ((gX2_year T p0).1).toInt64) := (act_year hR h9).2
theorem b1_month {S : SX} {th p0 : Int32} (h : ¬ (vp_in p0 6)) : gX2_month (mkM th S) p0 = ((0 : Int32), mkM 1 S) := by
  unfold gX2_month
  rw [none_1 h]
  exact if_neg (frf_l1 _)
theorem g_month {S : SX} {th p0 : Int32} (hI : Inv S) (hM : vp_in p0 6) : gX2_month (mkM th S) p0 = (fX0_month S p0, mkM 0 S) := by
  unfold gX2_month; rw [none_0 hM]
  refine (if_pos (by decide)).trans ?_
  rfl
theorem act_month {S : SX} {T : SM} {n : Int64} {p0 c9 : Int32} {n9 : Int64} {S9 : SX} (hR : Rel S T) (h9 : H_month S n p0 c9 n9 S9) : Rel S9 (gX2_month T p0).2 ∧ (fX2_thrown (gX2_month T p0).2 = c9 ∧ (c9 = 0 → n9 = ((gX2_month T p0).1).toInt64)) := by
  obtain ⟨⟨th, rfl⟩, hI⟩ := hR
  rcases h9 with ⟨h, e1, e2, e3⟩ | ⟨hM, e1, e2, e3⟩
  all_goals (have e1 := e1.symm; have e2 := e2.symm; have e3 := e3.symm; subst e1; subst e2; subst e3)
  · rw [b1_month h]
    exact ⟨⟨⟨_, rfl⟩, hI⟩, rfl, fun z => absurd z (by decide)⟩
  · rw [g_month (th := th) hI hM]
    exact ⟨⟨⟨0, rfl⟩, hI⟩, rfl, fun _ => rfl⟩
theorem rel_month {S : SX} {T : SM} {n : Int64} {p0 c9 : Int32} {n9 : Int64} {S9 : SX} (hR : Rel S T) (h9 : H_month S n p0 c9 n9 S9) : Rel S9 (gX2_month T p0).2 := (act_month hR h9).1
theorem cmp_month {S : SX} {T : SM} {n : Int64} {p0 c9 : Int32} {n9 : Int64} {S9 : SX} (hR : Rel S T) (h9 : H_month S n p0 c9 n9 S9) : fX2_thrown (gX2_month T p0).2 = c9 ∧ (c9 = 0 → n9 = ((gX2_month T p0).1).toInt64) := (act_month hR h9).2
theorem b1_dayOfMonth {S : SX} {th p0 : Int32} (h : ¬ (vp_in p0 6)) : gX2_dayOfMonth (mkM th S) p0 = ((0 : Int32), mkM 1 S) := by
  unfold gX2_dayOfMonth
  rw [none_1 h]
  exact if_neg (frf_l1 _)
theorem g_dayOfMonth {S : SX} {th p0 : Int32} (hI : Inv S) (hM : vp_in p0 6) : gX2_dayOfMonth (mkM th S) p0 = (fX0_dayOfMonth S p0, mkM 0 S) := by
  unfold gX2_dayOfMonth; rw [none_0 hM]
  refine (if_pos (by decide)).trans ?_
  rfl
theorem act_dayOfMonth {S : SX} {T : SM} {n : Int64} {p0 c9 : Int32} {n9 : Int64} {S9 : SX} (hR : Rel S T) (h9 : H_dayOfMonth S n p0 c9 n9 S9) : Rel S9 (gX2_dayOfMonth T p0).2 ∧ (fX2_thrown (gX2_dayOfMonth T p0).2 = c9 ∧ (c9 = 0 → n9 = ((gX2_dayOfMonth T p0).1).toInt64)) := by
  obtain ⟨⟨th, rfl⟩, hI⟩ := hR
  rcases h9 with ⟨h, e1, e2, e3⟩ | ⟨hM, e1, e2, e3⟩
  all_goals (have e1 := e1.symm; have e2 := e2.symm; have e3 := e3.symm; subst e1; subst e2; subst e3)
  · rw [b1_dayOfMonth h]
    exact ⟨⟨⟨_, rfl⟩, hI⟩, rfl, fun z => absurd z (by decide)⟩
  · rw [g_dayOfMonth (th := th) hI hM]
    exact ⟨⟨⟨0, rfl⟩, hI⟩, rfl, fun _ => rfl⟩
theorem rel_dayOfMonth {S : SX} {T : SM} {n : Int64} {p0 c9 : Int32} {n9 : Int64} {S9 : SX} (hR : Rel S T) (h9 : H_dayOfMonth S n p0 c9 n9 S9) : Rel S9 (gX2_dayOfMonth T p0).2 := (act_dayOfMonth hR h9).1
theorem cmp_dayOfMonth {S : SX} {T : SM} {n : Int64} {p0 c9 : Int32} {n9 : Int64} {S9 : SX} (hR : Rel S T) (h9 : H_dayOfMonth S n p0 c9 n9 S9) : fX2_thrown (gX2_dayOfMonth T p0).2 = c9 ∧ (c9 = 0 → n9 = ((gX2_dayOfMonth T p0).1).toInt64) := (act_dayOfMonth hR h9).2
theorem b1_dayOfYear {S : SX} {th p0 : Int32} (h : ¬ (vp_in p0 6)) : gX2_dayOfYear (mkM th S) p0 = ((0 : Int32), mkM 1 S) := by
  unfold gX2_dayOfYear
  rw [none_1 h]
  exact if_neg (frf_l1 _)
theorem g_dayOfYear {S : SX} {th p0 : Int32} (hI : Inv S) (hM : vp_in p0 6) : gX2_dayOfYear (mkM th S) p0 = (fX0_dayOfYear S p0, mkM 0 S) := by
  unfold gX2_dayOfYear; rw [none_0 hM]
  refine (if_pos (by decide)).trans ?_
  exact congrArg (fun z => (z, mkM 0 S)) (in_eq (hI.at hM).2.1)
theorem act_dayOfYear {S : SX} {T : SM} {n : Int64} {p0 c9 : Int32} {n9 : Int64} {S9 : SX} (hR : Rel S T) (h9 : H_dayOfYear S n p0 c9 n9 S9) : Rel S9 (gX2_dayOfYear T p0).2 ∧ (fX2_thrown (gX2_dayOfYear T p0).2 = c9 ∧ (c9 = 0 → n9 = ((gX2_dayOfYear T p0).1).toInt64)) := by
  obtain ⟨⟨th, rfl⟩, hI⟩ := hR
  rcases h9 with ⟨h, e1, e2, e3⟩ | ⟨hM, e1, e2, e3⟩
  all_goals (have e1 := e1.symm; have e2 := e2.symm; have e3 := e3.symm; subst e1; subst e2; subst e3)
  · rw [b1_dayOfYear h]
    exact ⟨⟨⟨_, rfl⟩, hI⟩, rfl, fun z => absurd z (by decide)⟩
  · rw [g_dayOfYear (th := th) hI hM]
    exact ⟨⟨⟨0, rfl⟩, hI⟩, rfl, fun _ => rfl⟩
theorem rel_dayOfYear {S : SX} {T : SM} {n : Int64} {p0 c9 : Int32} {n9 : Int64} {S9 : SX} (hR : Rel S T) (h9 : H_dayOfYear S n p0 c9 n9 S9) : Rel S9 (gX2_dayOfYear T p0).2 := (act_dayOfYear hR h9).1
