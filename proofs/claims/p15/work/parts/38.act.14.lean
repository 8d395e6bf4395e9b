theorem cmp_dayOfYear {S : SX} {T : SM} {n : Int64} {p0 c9 : Int32} {n9 : Int64} {S9 : SX} (hR : Rel S T) (h9 : H_dayOfYear S n p0 c9 n9 S9) : fX2_thrown (gX2_dayOfYear T p0).2 = c9 ∧ (c9 = 0 → n9 = ((gX2_dayOfYear T p0).1).toInt64) := (act_dayOfYear hR h9).2
theorem b1_dayOfWeek {S : SX} {th p0 : Int32} (h : ¬ (vp_in p0 6)) : gX2_dayOfWeek (mkM th S) p0 = ((0 : Int32), mkM 1 S) := by
  unfold gX2_dayOfWeek
  rw [none_1 h]
  exact if_neg (frf_l1 _)
theorem g_dayOfWeek {S : SX} {th p0 : Int32} (hI : Inv S) (hM : vp_in p0 6) : gX2_dayOfWeek (mkM th S) p0 = (fX0_dayOfWeek S p0, mkM 0 S) := by
  unfold gX2_dayOfWeek; rw [none_0 hM]
  refine (if_pos (by decide)).trans ?_
  exact congrArg (fun z => (z, mkM 0 S)) (wkn_eq hI hM)
theorem act_dayOfWeek {S : SX} {T : SM} {n : Int64} {p0 c9 : Int32} {n9 : Int64} {S9 : SX} (hR : Rel S T) (h9 : H_dayOfWeek S n p0 c9 n9 S9) : Rel S9 (gX2_dayOfWeek T p0).2 ∧ (fX2_thrown (gX2_dayOfWeek T p0).2 = c9 ∧ (c9 = 0 → n9 = ((gX2_dayOfWeek T p0).1).toInt64)) := by
  obtain ⟨⟨th, rfl⟩, hI⟩ := hR
  rcases h9 with ⟨h, e1, e2, e3⟩ | ⟨hM, e1, e2, e3⟩
  all_goals (have e1 := e1.symm; have e2 := e2.symm; have e3 := e3.symm; subst e1; subst e2; subst e3)
  · rw [b1_dayOfWeek h]
    exact ⟨⟨⟨_, rfl⟩, hI⟩, rfl, fun z => absurd z (by decide)⟩
  · rw [g_dayOfWeek (th := th) hI hM]
    exact ⟨⟨⟨0, rfl⟩, hI⟩, rfl, fun _ => rfl⟩
theorem rel_dayOfWeek {S : SX} {T : SM} {n : Int64} {p0 c9 : Int32} {n9 : Int64} {S9 : SX} (hR : Rel S T) (h9 : H_dayOfWeek S n p0 c9 n9 S9) : Rel S9 (gX2_dayOfWeek T p0).2 := (act_dayOfWeek hR h9).1
theorem cmp_dayOfWeek {S : SX} {T : SM} {n : Int64} {p0 c9 : Int32} {n9 : Int64} {S9 : SX} (hR : Rel S T) (h9 : H_dayOfWeek S n p0 c9 n9 S9) : fX2_thrown (gX2_dayOfWeek T p0).2 = c9 ∧ (c9 = 0 → n9 = ((gX2_dayOfWeek T p0).1).toInt64) := (act_dayOfWeek hR h9).2
theorem b1_hour {S : SX} {th p0 : Int32} (h : ¬ (vp_in p0 6)) : gX2_hour (mkM th S) p0 = ((0 : Int32), mkM 1 S) := by
  unfold gX2_hour
  rw [none_1 h]
  exact if_neg (frf_l1 _)
theorem g_hour {S : SX} {th p0 : Int32} (hI : Inv S) (hM : vp_in p0 6) : gX2_hour (mkM th S) p0 = (fX0_hour S p0, mkM 0 S) := by
  unfold gX2_hour; rw [none_0 hM]
  refine (if_pos (by decide)).trans ?_
  exact congrArg (fun z => (z, mkM 0 S)) (hour_eq (hI.N hM))
theorem act_hour {S : SX} {T : SM} {n : Int64} {p0 c9 : Int32} {n9 : Int64} {S9 : SX} (hR : Rel S T) (h9 : H_hour S n p0 c9 n9 S9) : Rel S9 (gX2_hour T p0).2 ∧ (fX2_thrown (gX2_hour T p0).2 = c9 ∧ (c9 = 0 → n9 = ((gX2_hour T p0).1).toInt64)) := by
  obtain ⟨⟨th, rfl⟩, hI⟩ := hR
  rcases h9 with ⟨h, e1, e2, e3⟩ | ⟨hM, e1, e2, e3⟩
  all_goals (have e1 := e1.symm; have e2 := e2.symm; have e3 := e3.symm; subst e1; subst e2; subst e3)
  · rw [b1_hour h]
    exact ⟨⟨⟨_, rfl⟩, hI⟩, rfl, fun z => absurd z (by decide)⟩
  · rw [g_hour (th := th) hI hM]
    exact ⟨⟨⟨0, rfl⟩, hI⟩, rfl, fun _ => rfl⟩
theorem rel_hour {S : SX} {T : SM} {n : Int64} {p0 c9 : Int32} {n9 : Int64} {S9 : SX} (hR : Rel S T) (h9 : H_hour S n p0 c9 n9 S9) : Rel S9 (gX2_hour T p0).2 := (act_hour hR h9).1
theorem cmp_hour {S : SX} {T : SM} {n : Int64} {p0 c9 : Int32} {n9 : Int64} {S9 : SX} (hR : Rel S T) (h9 : H_hour S n p0 c9 n9 S9) : fX2_thrown (gX2_hour T p0).2 = c9 ∧ (c9 = 0 → n9 = ((gX2_hour T p0).1).toInt64) := (act_hour hR h9).2
theorem b1_minute {S : SX} {th p0 : Int32} (h : ¬ (vp_in p0 6)) : gX2_minute (mkM th S) p0 = ((0 : Int32), mkM 1 S) := by
  unfold gX2_minute
  rw [none_1 h]
  exact if_neg (frf_l1 _)
theorem g_minute {S : SX} {th p0 : Int32} (hI : Inv S) (hM : vp_in p0 6) : gX2_minute (mkM th S) p0 = (fX0_minute S p0, mkM 0 S) := by
  unfold gX2_minute; rw [none_0 hM]
  refine (if_pos (by decide)).trans ?_
  exact congrArg (fun z => (z, mkM 0 S)) (minute_eq (hI.N hM))
theorem act_minute {S : SX} {T : SM} {n : Int64} {p0 c9 : Int32} {n9 : Int64} {S9 : SX} (hR : Rel S T) (h9 : H_minute S n p0 c9 n9 S9) : Rel S9 (gX2_minute T p0).2 ∧ (fX2_thrown (gX2_minute T p0).2 = c9 ∧ (c9 = 0 → n9 = ((gX2_minute T p0).1).toInt64)) := by
  obtain ⟨⟨th, rfl⟩, hI⟩ := hR
  rcases h9 with ⟨h, e1, e2, e3⟩ | ⟨hM, e1, e2, e3⟩
  all_goals (have e1 := e1.symm; have e2 := e2.symm; have e3 := e3.symm; subst e1; subst e2; subst e3)
  · rw [b1_minute h]
    exact ⟨⟨⟨_, rfl⟩, hI⟩, rfl, fun z => absurd z (by decide)⟩
  · rw [g_minute (th := th) hI hM]
    exact ⟨⟨⟨0, rfl⟩, hI⟩, rfl, fun _ => rfl⟩
theorem rel_minute {S : SX} {T : SM} {n : Int64} {p0 c9 : Int32} {n9 : Int64} {S9 : SX} (hR : Rel S T) (h9 : H_minute S n p0 c9 n9 S9) : Rel S9 (gX2_minute T p0).2 := (act_minute hR h9).1
theorem cmp_minute {S : SX} {T : SM} {n : Int64} {p0 c9 : Int32} {n9 : Int64} {S9 : SX} (hR : Rel S T) (h9 : H_minute S n p0 c9 n9 S9) : fX2_thrown (gX2_minute T p0).2 = c9 ∧ (c9 = 0 → n9 = ((gX2_minute T p0).1).toInt64) := (act_minute hR h9).2
theorem b1_second {S : SX} {th p0 : Int32} (h : ¬ (vp_in p0 6)) : gX2_second (mkM th S) p0 = ((0 : Int32), mkM 1 S) := by
  unfold gX2_second
  rw [none_1 h]
  exact if_neg (frf_l1 _)
theorem g_second {S : SX} {th p0 : Int32} (hI : Inv S) (hM : vp_in p0 6) : gX2_second (mkM th S) p0 = (fX0_second S p0, mkM 0 S) := by
  unfold gX2_second; rw [none_0 hM]
  refine (if_pos (by decide)).trans ?_
  exact congrArg (fun z => (z, mkM 0 S)) (second_eq (hI.N hM))
theorem act_second {S : SX} {T : SM} {n : Int64} {p0 c9 : Int32} {n9 : Int64} {S9 : SX} (hR : Rel S T) (h9 : H_second S n p0 c9 n9 S9) : Rel S9 (gX2_second T p0).2 ∧ (fX2_thrown (gX2_second T p0).2 = c9 ∧ (c9 = 0 → n9 = ((gX2_second T p0).1).toInt64)) := by
  obtain ⟨⟨th, rfl⟩, hI⟩ := hR
  rcases h9 with ⟨h, e1, e2, e3⟩ | ⟨hM, e1, e2, e3⟩
  all_goals (have e1 := e1.symm; have e2 := e2.symm; have e3 := e3.symm; subst e1; subst e2; subst e3)
  · rw [b1_second h]
    exact ⟨⟨⟨_, rfl⟩, hI⟩, rfl, fun z => absurd z (by decide)⟩
  · rw [g_second (th := th) hI hM]
    exact ⟨⟨⟨0, rfl⟩, hI⟩, rfl, fun _ => rfl⟩
