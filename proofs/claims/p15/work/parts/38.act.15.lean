theorem rel_second {S : SX} {T : SM} {n : Int64} {p0 c9 : Int32} {n9 : Int64} {S9 : SX} (hR : Rel S T) (h9 : H_second S n p0 c9 n9 S9) : Rel S9 (gX2_second T p0).2 := (act_second hR h9).1
theorem cmp_second {S : SX} {T : SM} {n : Int64} {p0 c9 : Int32} {n9 : Int64} {S9 : SX} (hR : Rel S T) (h9 : H_second S n p0 c9 n9 S9) : fX2_thrown (gX2_second T p0).2 = c9 ∧ (c9 = 0 → n9 = ((gX2_second T p0).1).toInt64) := (act_second hR h9).2
theorem b1_nano {S : SX} {th p0 : Int32} (h : ¬ (vp_in p0 6)) : gX2_nano (mkM th S) p0 = ((0 : Int32), mkM 1 S) := by
  unfold gX2_nano
  rw [none_1 h]
  exact if_neg (frf_l1 _)
theorem g_nano {S : SX} {th p0 : Int32} (hI : Inv S) (hM : vp_in p0 6) : gX2_nano (mkM th S) p0 = (fX0_nano S p0, mkM 0 S) := by
  unfold gX2_nano; rw [none_0 hM]
  refine (if_pos (by decide)).trans ?_
  exact congrArg (fun z => (z, mkM 0 S)) (nano_eq (hI.N hM))
theorem act_nano {S : SX} {T : SM} {n : Int64} {p0 c9 : Int32} {n9 : Int64} {S9 : SX} (hR : Rel S T) (h9 : H_nano S n p0 c9 n9 S9) : Rel S9 (gX2_nano T p0).2 ∧ (fX2_thrown (gX2_nano T p0).2 = c9 ∧ (c9 = 0 → n9 = ((gX2_nano T p0).1).toInt64)) := by
  obtain ⟨⟨th, rfl⟩, hI⟩ := hR
  rcases h9 with ⟨h, e1, e2, e3⟩ | ⟨hM, e1, e2, e3⟩
  all_goals (have e1 := e1.symm; have e2 := e2.symm; have e3 := e3.symm; subst e1; subst e2; subst e3)
  · rw [b1_nano h]
    exact ⟨⟨⟨_, rfl⟩, hI⟩, rfl, fun z => absurd z (by decide)⟩
  · rw [g_nano (th := th) hI hM]
    exact ⟨⟨⟨0, rfl⟩, hI⟩, rfl, fun _ => rfl⟩
theorem rel_nano {S : SX} {T : SM} {n : Int64} {p0 c9 : Int32} {n9 : Int64} {S9 : SX} (hR : Rel S T) (h9 : H_nano S n p0 c9 n9 S9) : Rel S9 (gX2_nano T p0).2 := (act_nano hR h9).1
theorem cmp_nano {S : SX} {T : SM} {n : Int64} {p0 c9 : Int32} {n9 : Int64} {S9 : SX} (hR : Rel S T) (h9 : H_nano S n p0 c9 n9 S9) : fX2_thrown (gX2_nano T p0).2 = c9 ∧ (c9 = 0 → n9 = ((gX2_nano T p0).1).toInt64) := (act_nano hR h9).2
theorem b1_day {S : SX} {th p0 : Int32} (h : ¬ (vp_in p0 6)) : gX2_day (mkM th S) p0 = ((0 : Int32), mkM 1 S) := by
  unfold gX2_day
  rw [none_1 h]
  exact if_neg (frf_l1 _)
theorem g_day {S : SX} {th p0 : Int32} (hI : Inv S) (hM : vp_in p0 6) : gX2_day (mkM th S) p0 = (fX0_day S p0, mkM 0 S) := by
  unfold gX2_day; rw [none_0 hM]
  refine (if_pos (by decide)).trans ?_
  exact congrArg (fun z => (z.toInt32, mkM 0 S)) (dayNow_eq (th := 0) hI hM)
theorem act_day {S : SX} {T : SM} {n : Int64} {p0 c9 : Int32} {n9 : Int64} {S9 : SX} (hR : Rel S T) (h9 : H_day S n p0 c9 n9 S9) : Rel S9 (gX2_day T p0).2 ∧ (fX2_thrown (gX2_day T p0).2 = c9 ∧ (c9 = 0 → n9 = ((gX2_day T p0).1).toInt64)) := by
  obtain ⟨⟨th, rfl⟩, hI⟩ := hR
  rcases h9 with ⟨h, e1, e2, e3⟩ | ⟨hM, e1, e2, e3⟩
  all_goals (have e1 := e1.symm; have e2 := e2.symm; have e3 := e3.symm; subst e1; subst e2; subst e3)
  · rw [b1_day h]
    exact ⟨⟨⟨_, rfl⟩, hI⟩, rfl, fun z => absurd z (by decide)⟩
  · rw [g_day (th := th) hI hM]
    exact ⟨⟨⟨0, rfl⟩, hI⟩, rfl, fun _ => rfl⟩
theorem rel_day {S : SX} {T : SM} {n : Int64} {p0 c9 : Int32} {n9 : Int64} {S9 : SX} (hR : Rel S T) (h9 : H_day S n p0 c9 n9 S9) : Rel S9 (gX2_day T p0).2 := (act_day hR h9).1
theorem cmp_day {S : SX} {T : SM} {n : Int64} {p0 c9 : Int32} {n9 : Int64} {S9 : SX} (hR : Rel S T) (h9 : H_day S n p0 c9 n9 S9) : fX2_thrown (gX2_day T p0).2 = c9 ∧ (c9 = 0 → n9 = ((gX2_day T p0).1).toInt64) := (act_day hR h9).2
theorem b1_secondOfDay {S : SX} {th p0 : Int32} (h : ¬ (vp_in p0 6)) : gX2_secondOfDay (mkM th S) p0 = ((0 : Int32), mkM 1 S) := by
  unfold gX2_secondOfDay
  rw [none_1 h]
  exact if_neg (frf_l1 _)
theorem g_secondOfDay {S : SX} {th p0 : Int32} (hI : Inv S) (hM : vp_in p0 6) : gX2_secondOfDay (mkM th S) p0 = (fX0_secondOfDay S p0, mkM 0 S) := by
  unfold gX2_secondOfDay; rw [none_0 hM]
  refine (if_pos (by decide)).trans ?_
  exact congrArg (fun z => (z, mkM 0 S)) (sod_eq (hI.N hM))
theorem act_secondOfDay {S : SX} {T : SM} {n : Int64} {p0 c9 : Int32} {n9 : Int64} {S9 : SX} (hR : Rel S T) (h9 : H_secondOfDay S n p0 c9 n9 S9) : Rel S9 (gX2_secondOfDay T p0).2 ∧ (fX2_thrown (gX2_secondOfDay T p0).2 = c9 ∧ (c9 = 0 → n9 = ((gX2_secondOfDay T p0).1).toInt64)) := by
  obtain ⟨⟨th, rfl⟩, hI⟩ := hR
  rcases h9 with ⟨h, e1, e2, e3⟩ | ⟨hM, e1, e2, e3⟩
  all_goals (have e1 := e1.symm; have e2 := e2.symm; have e3 := e3.symm; subst e1; subst e2; subst e3)
  · rw [b1_secondOfDay h]
    exact ⟨⟨⟨_, rfl⟩, hI⟩, rfl, fun z => absurd z (by decide)⟩
  · rw [g_secondOfDay (th := th) hI hM]
    exact ⟨⟨⟨0, rfl⟩, hI⟩, rfl, fun _ => rfl⟩
theorem rel_secondOfDay {S : SX} {T : SM} {n : Int64} {p0 c9 : Int32} {n9 : Int64} {S9 : SX} (hR : Rel S T) (h9 : H_secondOfDay S n p0 c9 n9 S9) : Rel S9 (gX2_secondOfDay T p0).2 := (act_secondOfDay hR h9).1
theorem cmp_secondOfDay {S : SX} {T : SM} {n : Int64} {p0 c9 : Int32} {n9 : Int64} {S9 : SX} (hR : Rel S T) (h9 : H_secondOfDay S n p0 c9 n9 S9) : fX2_thrown (gX2_secondOfDay T p0).2 = c9 ∧ (c9 = 0 → n9 = ((gX2_secondOfDay T p0).1).toInt64) := (act_secondOfDay hR h9).2
theorem b1_lengthOfMonth {S : SX} {th p0 : Int32} (h : ¬ (vp_in p0 6)) : gX2_lengthOfMonth (mkM th S) p0 = ((0 : Int32), mkM 1 S) := by
  unfold gX2_lengthOfMonth
  rw [none_1 h]
  exact if_neg (frf_l1 _)
theorem g_lengthOfMonth {S : SX} {th p0 : Int32} (hI : Inv S) (hM : vp_in p0 6) : gX2_lengthOfMonth (mkM th S) p0 = (fX0_lengthOfMonth S p0, mkM 0 S) := by
  unfold gX2_lengthOfMonth; rw [none_0 hM]
  refine (if_pos (by decide)).trans ?_
  exact congrArg (fun z => (z, mkM 0 S)) (len_eq (hI.at hM).2.1)
