theorem act_lengthOfMonth {S : SX} {T : SM} {n : Int64} {p0 c9 : Int32} {n9 : Int64} {S9 : SX} (hR : Rel S T) (h9 : H_lengthOfMonth S n p0 c9 n9 S9) : Rel S9 (gX2_lengthOfMonth T p0).2 ∧ (fX2_thrown (gX2_lengthOfMonth T p0).2 = c9 ∧ (c9 = 0 → n9 = ((gX2_lengthOfMonth T p0).1).toInt64)) := by
  obtain ⟨⟨th, rfl⟩, hI⟩ := hR
  rcases h9 with ⟨h, e1, e2, e3⟩ | ⟨hM, e1, e2, e3⟩
  all_goals (have e1 := e1.symm; have e2 := e2.symm; have e3 := e3.symm; subst e1; subst e2; subst e3)
  · rw [b1_lengthOfMonth h]
    exact ⟨⟨⟨_, rfl⟩, hI⟩, rfl, fun z => absurd z (by decide)⟩
  · rw [g_lengthOfMonth (th := th) hI hM]
    exact ⟨⟨⟨0, rfl⟩, hI⟩, rfl, fun _ => rfl⟩
theorem rel_lengthOfMonth {S : SX} {T : SM} {n : Int64} {p0 c9 : Int32} {n9 : Int64} {S9 : SX} (hR : Rel S T) (h9 : H_lengthOfMonth S n p0 c9 n9 S9) : Rel S9 (gX2_lengthOfMonth T p0).2 := (act_lengthOfMonth hR h9).1
theorem cmp_lengthOfMonth {S : SX} {T : SM} {n : Int64} {p0 c9 : Int32} {n9 : Int64} {S9 : SX} (hR : Rel S T) (h9 : H_lengthOfMonth S n p0 c9 n9 S9) : fX2_thrown (gX2_lengthOfMonth T p0).2 = c9 ∧ (c9 = 0 → n9 = ((gX2_lengthOfMonth T p0).1).toInt64) := (act_lengthOfMonth hR h9).2
theorem b1_compare {S : SX} {th p0 p1 : Int32} (h : ¬ (vp_in p0 6 ∧ vp_in p1 6)) : gX2_compare (mkM th S) p0 p1 = ((0 : Int32), mkM 1 S) := by
  unfold gX2_compare
  by_cases h0 : vp_in p0 6
  · rw [none_0 h0, none_1 (fun z => h ⟨h0, z⟩)]
    exact (if_pos rfl).trans (if_neg (frf_l1 _))
  · rw [none_1 h0]
    exact if_neg (by decide)
theorem g_compare {S : SX} {th p0 p1 : Int32} (hI : Inv S) (hM : vp_in p0 6 ∧ vp_in p1 6) : gX2_compare (mkM th S) p0 p1 = (fX0_compare S p0 p1, mkM 0 S) := by
  unfold gX2_compare; rw [none_0 hM.1, none_0 hM.2]
  refine ((if_pos rfl).trans (if_pos (by decide))).trans ?_
  exact congrArg (fun z => (z, mkM 0 S)) (order_eq (th := 0) hI hM.1 hM.2)
theorem act_compare {S : SX} {T : SM} {n : Int64} {p0 p1 c9 : Int32} {n9 : Int64} {S9 : SX} (hR : Rel S T) (h9 : H_compare S n p0 p1 c9 n9 S9) : Rel S9 (gX2_compare T p0 p1).2 ∧ (fX2_thrown (gX2_compare T p0 p1).2 = c9 ∧ (c9 = 0 → n9 = ((gX2_compare T p0 p1).1).toInt64)) := by
  obtain ⟨⟨th, rfl⟩, hI⟩ := hR
  rcases h9 with ⟨h, e1, e2, e3⟩ | ⟨hM, e1, e2, e3⟩
  all_goals (have e1 := e1.symm; have e2 := e2.symm; have e3 := e3.symm; subst e1; subst e2; subst e3)
  · rw [b1_compare h]
    exact ⟨⟨⟨_, rfl⟩, hI⟩, rfl, fun z => absurd z (by decide)⟩
  · rw [g_compare (th := th) hI hM]
    exact ⟨⟨⟨0, rfl⟩, hI⟩, rfl, fun _ => rfl⟩
theorem rel_compare {S : SX} {T : SM} {n : Int64} {p0 p1 c9 : Int32} {n9 : Int64} {S9 : SX} (hR : Rel S T) (h9 : H_compare S n p0 p1 c9 n9 S9) : Rel S9 (gX2_compare T p0 p1).2 := (act_compare hR h9).1
theorem cmp_compare {S : SX} {T : SM} {n : Int64} {p0 p1 c9 : Int32} {n9 : Int64} {S9 : SX} (hR : Rel S T) (h9 : H_compare S n p0 p1 c9 n9 S9) : fX2_thrown (gX2_compare T p0 p1).2 = c9 ∧ (c9 = 0 → n9 = ((gX2_compare T p0 p1).1).toInt64) := (act_compare hR h9).2
theorem b1_isSame {S : SX} {th p0 p1 : Int32} (h : ¬ (vp_in p0 6 ∧ vp_in p1 6)) : gX2_isSame (mkM th S) p0 p1 = ((0 : Int32), mkM 1 S) := by
  unfold gX2_isSame
  by_cases h0 : vp_in p0 6
  · rw [none_0 h0, none_1 (fun z => h ⟨h0, z⟩)]
    exact (if_pos rfl).trans (if_neg (frf_l1 _))
  · rw [none_1 h0]
    exact if_neg (by decide)
theorem g_isSame {S : SX} {th p0 p1 : Int32} (hI : Inv S) (hM : vp_in p0 6 ∧ vp_in p1 6) : gX2_isSame (mkM th S) p0 p1 = (fX0_isSame S p0 p1, mkM 0 S) := by
  unfold gX2_isSame; rw [none_0 hM.1, none_0 hM.2]
  refine ((if_pos rfl).trans (if_pos (by decide))).trans ?_
  have e := order_eq (th := 0) hI hM.1 hM.2
  have e2 : fX0_isSame S p0 p1 = (if fX0_order S p0 p1 = 0 then (1 : Int32) else (0 : Int32)) := same_eq.symm
  rw [e2]
  by_cases c : fX0_order S p0 p1 = 0
  · rw [if_pos c]; exact if_pos (e.trans c)
  · rw [if_neg c]; exact if_neg (fun z => c (e.symm.trans z))
theorem act_isSame {S : SX} {T : SM} {n : Int64} {p0 p1 c9 : Int32} {n9 : Int64} {S9 : SX} (hR : Rel S T) (h9 : H_isSame S n p0 p1 c9 n9 S9) : Rel S9 (gX2_isSame T p0 p1).2 ∧ (fX2_thrown (gX2_isSame T p0 p1).2 = c9 ∧ (c9 = 0 → n9 = fz9 (gX2_isSame T p0 p1).1)) := by
  obtain ⟨⟨th, rfl⟩, hI⟩ := hR
  rcases h9 with ⟨h, e1, e2, e3⟩ | ⟨hM, e1, e2, e3⟩
  all_goals (have e1 := e1.symm; have e2 := e2.symm; have e3 := e3.symm; subst e1; subst e2; subst e3)
  · rw [b1_isSame h]
    exact ⟨⟨⟨_, rfl⟩, hI⟩, rfl, fun z => absurd z (by decide)⟩
  · rw [g_isSame (th := th) hI hM]
    exact ⟨⟨⟨0, rfl⟩, hI⟩, rfl, fun _ => rfl⟩
theorem rel_isSame {S : SX} {T : SM} {n : Int64} {p0 p1 c9 : Int32} {n9 : Int64} {S9 : SX} (hR : Rel S T) (h9 : H_isSame S n p0 p1 c9 n9 S9) : Rel S9 (gX2_isSame T p0 p1).2 := (act_isSame hR h9).1
theorem cmp_isSame {S : SX} {T : SM} {n : Int64} {p0 p1 c9 : Int32} {n9 : Int64} {S9 : SX} (hR : Rel S T) (h9 : H_isSame S n p0 p1 c9 n9 S9) : fX2_thrown (gX2_isSame T p0 p1).2 = c9 ∧ (c9 = 0 → n9 = fz9 (gX2_isSame T p0 p1).1) := (act_isSame hR h9).2
theorem b1_isLeap {S : SX} {th p0 : Int32} (h : ¬ (vp_in p0 6)) : gX2_isLeap (mkM th S) p0 = ((0 : Int32), mkM 1 S) := by
  unfold gX2_isLeap
  rw [none_1 h]
  exact if_neg (frf_l1 _)
theorem g_isLeap {S : SX} {th p0 : Int32} (hI : Inv S) (hM : vp_in p0 6) : gX2_isLeap (mkM th S) p0 = (fX0_isLeap S p0, mkM 0 S) := by
  unfold gX2_isLeap; rw [none_0 hM]
  refine (if_pos (by decide)).trans ?_
  have e : fX2_isLeapYear (my (mkM th S) p0.toNatClampNeg) = fX0_isLeap S p0 := leap_eq _
  rw [e]
  have h2 : fX0_isLeap S p0 = 1 ∨ fX0_isLeap S p0 = 0 := by
    rcases leap0 (xy S p0.toNatClampNeg) with ⟨-, z⟩ | ⟨-, z⟩
    · exact Or.inl z
    · exact Or.inr z
  rcases h2 with z | z <;> rw [z]
  · exact if_neg (by decide)
  · exact if_pos rfl
