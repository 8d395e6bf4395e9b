theorem act_ofDay {S : SX} {T : SM} {n : Int64} {p0 p1 c9 : Int32} {n9 : Int64} {S9 : SX} (hR : Rel S T) (h9 : H_ofDay S n p0 p1 c9 n9 S9) : Rel S9 (gX2_ofDay T p0 p1).2 ∧ (fX2_thrown (gX2_ofDay T p0 p1).2 = c9 ∧ (c9 = 0 → n9 = ((gX2_ofDay T p0 p1).1).toInt64)) := by
  obtain ⟨⟨th, rfl⟩, hI⟩ := hR
  rcases h9 with ⟨h, e1, e2, e3⟩ | ⟨hM, h, e1, e2, e3⟩ | ⟨hM, hR, e1, e2, e3⟩
  all_goals (have e1 := e1.symm; have e2 := e2.symm; have e3 := e3.symm; subst e1; subst e2; subst e3)
  · rw [b1_ofDay h]
    exact ⟨⟨⟨_, rfl⟩, hI⟩, rfl, fun z => absurd z (by decide)⟩
  · rw [b2_ofDay hM h]
    exact ⟨⟨⟨_, rfl⟩, hI⟩, rfl, fun z => absurd z (by decide)⟩
  · exact fin_W (g_ofDay (th := th) hI hM hR)
theorem rel_ofDay {S : SX} {T : SM} {n : Int64} {p0 p1 c9 : Int32} {n9 : Int64} {S9 : SX} (hR : Rel S T) (h9 : H_ofDay S n p0 p1 c9 n9 S9) : Rel S9 (gX2_ofDay T p0 p1).2 := (act_ofDay hR h9).1
theorem cmp_ofDay {S : SX} {T : SM} {n : Int64} {p0 p1 c9 : Int32} {n9 : Int64} {S9 : SX} (hR : Rel S T) (h9 : H_ofDay S n p0 p1 c9 n9 S9) : fX2_thrown (gX2_ofDay T p0 p1).2 = c9 ∧ (c9 = 0 → n9 = ((gX2_ofDay T p0 p1).1).toInt64) := (act_ofDay hR h9).2
theorem b1_copy {S : SX} {th p0 p1 : Int32} (h : ¬ (vp_in p0 6 ∧ vp_in p1 6)) : gX2_copy (mkM th S) p0 p1 = ((0 : Int32), mkM 1 S) := by
  unfold gX2_copy
  by_cases h0 : vp_in p0 6
  · rw [none_0 h0, none_1 (fun z => h ⟨h0, z⟩)]
    exact (if_pos rfl).trans (if_neg (frf_l1 _))
  · rw [none_1 h0]
    exact if_neg (by decide)
theorem g_copy {S : SX} {th p0 p1 : Int32} (hI : Inv S) (hM : vp_in p0 6 ∧ vp_in p1 6) : GO 0 (gX2_copy (mkM th S) p0 p1) (gX0_copy S p0 p1) := by
  have e1 : gX2_copy (mkM th S) p0 p1 = gX2_become (mkM 0 S) p0 (xy S p1.toNatClampNeg) (xm S p1.toNatClampNeg) (xd S p1.toNatClampNeg) (xN S p1.toNatClampNeg) := by
    unfold gX2_copy; rw [none_0 hM.1, none_0 hM.2]
    exact ((if_pos rfl).trans (if_pos (by decide))).trans peta
  have e0 : gX0_copy S p0 p1 = gX0_becomeDate S p0 (xy S p1.toNatClampNeg) (xm S p1.toNatClampNeg) (xd S p1.toNatClampNeg) (xN S p1.toNatClampNeg) := (peta (q := gX0_becomeAs S p0 p1 (xN S p1.toNatClampNeg))).trans peta
  rw [e1, e0]
  exact become_eq hI hM.1 (hI.at hM.2) (hI.N hM.2)
theorem act_copy {S : SX} {T : SM} {n : Int64} {p0 p1 c9 : Int32} {n9 : Int64} {S9 : SX} (hR : Rel S T) (h9 : H_copy S n p0 p1 c9 n9 S9) : Rel S9 (gX2_copy T p0 p1).2 ∧ (fX2_thrown (gX2_copy T p0 p1).2 = c9 ∧ (c9 = 0 → n9 = ((gX2_copy T p0 p1).1).toInt64)) := by
  obtain ⟨⟨th, rfl⟩, hI⟩ := hR
  rcases h9 with ⟨h, e1, e2, e3⟩ | ⟨hM, e1, e2, e3⟩
  all_goals (have e1 := e1.symm; have e2 := e2.symm; have e3 := e3.symm; subst e1; subst e2; subst e3)
  · rw [b1_copy h]
    exact ⟨⟨⟨_, rfl⟩, hI⟩, rfl, fun z => absurd z (by decide)⟩
  · exact fin_W (g_copy (th := th) hI hM)
theorem rel_copy {S : SX} {T : SM} {n : Int64} {p0 p1 c9 : Int32} {n9 : Int64} {S9 : SX} (hR : Rel S T) (h9 : H_copy S n p0 p1 c9 n9 S9) : Rel S9 (gX2_copy T p0 p1).2 := (act_copy hR h9).1
theorem cmp_copy {S : SX} {T : SM} {n : Int64} {p0 p1 c9 : Int32} {n9 : Int64} {S9 : SX} (hR : Rel S T) (h9 : H_copy S n p0 p1 c9 n9 S9) : fX2_thrown (gX2_copy T p0 p1).2 = c9 ∧ (c9 = 0 → n9 = ((gX2_copy T p0 p1).1).toInt64) := (act_copy hR h9).2
theorem b1_takeDate {S : SX} {th p0 p1 : Int32} (h : ¬ (vp_in p0 6 ∧ vp_in p1 6)) : gX2_takeDate (mkM th S) p0 p1 = ((0 : Int32), mkM 1 S) := by
  unfold gX2_takeDate
  by_cases h0 : vp_in p0 6
  · rw [none_0 h0, none_1 (fun z => h ⟨h0, z⟩)]
    exact (if_pos rfl).trans (if_neg (frf_l1 _))
  · rw [none_1 h0]
    exact if_neg (by decide)
theorem g_takeDate {S : SX} {th p0 p1 : Int32} (hI : Inv S) (hM : vp_in p0 6 ∧ vp_in p1 6) : GO 0 (gX2_takeDate (mkM th S) p0 p1) (gX0_takeDate S p0 p1) := by
  have e1 : gX2_takeDate (mkM th S) p0 p1 = gX2_become (mkM 0 S) p0 (xy S p1.toNatClampNeg) (xm S p1.toNatClampNeg) (xd S p1.toNatClampNeg) (xN S p0.toNatClampNeg) := by
    unfold gX2_takeDate; rw [none_0 hM.1, none_0 hM.2]
    exact ((if_pos rfl).trans (if_pos (by decide))).trans peta
  have e0 : gX0_takeDate S p0 p1 = gX0_becomeDate S p0 (xy S p1.toNatClampNeg) (xm S p1.toNatClampNeg) (xd S p1.toNatClampNeg) (xN S p0.toNatClampNeg) := (peta (q := gX0_becomeAs S p0 p1 (xN S p0.toNatClampNeg))).trans peta
  rw [e1, e0]
  exact become_eq hI hM.1 (hI.at hM.2) (hI.N hM.1)
theorem act_takeDate {S : SX} {T : SM} {n : Int64} {p0 p1 c9 : Int32} {n9 : Int64} {S9 : SX} (hR : Rel S T) (h9 : H_takeDate S n p0 p1 c9 n9 S9) : Rel S9 (gX2_takeDate T p0 p1).2 ∧ (fX2_thrown (gX2_takeDate T p0 p1).2 = c9 ∧ (c9 = 0 → n9 = ((gX2_takeDate T p0 p1).1).toInt64)) := by
  obtain ⟨⟨th, rfl⟩, hI⟩ := hR
  rcases h9 with ⟨h, e1, e2, e3⟩ | ⟨hM, e1, e2, e3⟩
  all_goals (have e1 := e1.symm; have e2 := e2.symm; have e3 := e3.symm; subst e1; subst e2; subst e3)
  · rw [b1_takeDate h]
    exact ⟨⟨⟨_, rfl⟩, hI⟩, rfl, fun z => absurd z (by decide)⟩
  · exact fin_W (g_takeDate (th := th) hI hM)
theorem rel_takeDate {S : SX} {T : SM} {n : Int64} {p0 p1 c9 : Int32} {n9 : Int64} {S9 : SX} (hR : Rel S T) (h9 : H_takeDate S n p0 p1 c9 n9 S9) : Rel S9 (gX2_takeDate T p0 p1).2 := (act_takeDate hR h9).1
theorem cmp_takeDate {S : SX} {T : SM} {n : Int64} {p0 p1 c9 : Int32} {n9 : Int64} {S9 : SX} (hR : Rel S T) (h9 : H_takeDate S n p0 p1 c9 n9 S9) : fX2_thrown (gX2_takeDate T p0 p1).2 = c9 ∧ (c9 = 0 → n9 = ((gX2_takeDate T p0 p1).1).toInt64) := (act_takeDate hR h9).2
theorem b1_takeTime {S : SX} {th p0 p1 : Int32} (h : ¬ (vp_in p0 6 ∧ vp_in p1 6)) : gX2_takeTime (mkM th S) p0 p1 = ((0 : Int32), mkM 1 S) := by
  unfold gX2_takeTime
  by_cases h0 : vp_in p0 6
  · rw [none_0 h0, none_1 (fun z => h ⟨h0, z⟩)]
    exact (if_pos rfl).trans (if_neg (frf_l1 _))
  · rw [none_1 h0]
    exact if_neg (by decide)
