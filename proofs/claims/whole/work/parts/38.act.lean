theorem b1_of {S : SX} {th p0 p1 p2 p3 p4 : Int32} (h : ¬ (vp_in p0 6)) : gX2_of (mkM th S) p0 p1 p2 p3 p4 = ((0 : Int32), mkM 1 S) := by
  unfold gX2_of
  rw [none_1 h]
  repeat (first | exact if_neg (frf_l1 _) | (refine ite_both ?_ ?_; rfl))
theorem b2_of {S : SX} {th p0 p1 p2 p3 p4 : Int32} (hM : vp_in p0 6) (h : ¬ ((¬ p1 < (-9999 : Int32) ∧ p1 ≤ (9999 : Int32)) ∧ (¬ p2 < (1 : Int32) ∧ p2 ≤ (12 : Int32)) ∧ (¬ p3 < (1 : Int32) ∧ p3 ≤ (31 : Int32)) ∧ (¬ p4 < (0 : Int32) ∧ p4 ≤ (6 : Int32)))) : gX2_of (mkM th S) p0 p1 p2 p3 p4 = ((0 : Int32), mkM 2 S) := by
  unfold gX2_of
  rw [none_0 hM]
  by_cases c0 : (¬ p1 < (-9999 : Int32) ∧ p1 ≤ (9999 : Int32))
  case neg => rw [from_0 c0]; exact if_pos rfl
  rw [from_1 c0.1 c0.2]
  refine (if_neg (by decide)).trans ?_
  by_cases c1 : (¬ p2 < (1 : Int32) ∧ p2 ≤ (12 : Int32))
  case neg => rw [from_0 c1]; exact if_pos rfl
  rw [from_1 c1.1 c1.2]
  refine (if_neg (by decide)).trans ?_
  by_cases c2 : (¬ p3 < (1 : Int32) ∧ p3 ≤ (31 : Int32))
  case neg => rw [from_0 c2]; exact if_pos rfl
  rw [from_1 c2.1 c2.2]
  refine (if_neg (by decide)).trans ?_
  rw [from_0 (fun z => h ⟨c0, c1, c2, z⟩)]
  exact if_neg (by decide)
theorem g_of {S : SX} {th p0 p1 p2 p3 p4 : Int32} (hI : Inv S) (hM : vp_in p0 6) (hR : (¬ p1 < (-9999 : Int32) ∧ p1 ≤ (9999 : Int32)) ∧ (¬ p2 < (1 : Int32) ∧ p2 ≤ (12 : Int32)) ∧ (¬ p3 < (1 : Int32) ∧ p3 ≤ (31 : Int32)) ∧ (¬ p4 < (0 : Int32) ∧ p4 ≤ (6 : Int32))) : GO 0 (gX2_of (mkM th S) p0 p1 p2 p3 p4) (gX0_of S p0 p1 p2 p3 p4) := by
  obtain ⟨k6, kn, kT⟩ := hand_go (th := 0) hI (rg hR.2.2.2 (by decide : (0 : Int32).toInt = 0) (by decide : (6 : Int32).toInt = 6))
  have hm : MN p2 := (rg hR.2.1 (by decide : (1 : Int32).toInt = 1) (by decide : (12 : Int32).toInt = 12))
  have hd := (rg hR.2.2.1 (by decide : (1 : Int32).toInt = 1) (by decide : (31 : Int32).toInt = 31))
  have e0 : gX0_of S p0 p1 p2 p3 p4 = gX0_becomeDate S p0 p1 p2 p3 (fX0_handTime S p4) := peta
  rw [e0]
  unfold gX2_of; rw [none_0 hM, from_1 hR.1.1 hR.1.2, from_1 hR.2.1.1 hR.2.1.2, from_1 hR.2.2.1.1 hR.2.2.1.2, from_1 hR.2.2.2.1 hR.2.2.2.2, len_eq hm]
  refine GO.of ((if_neg (by decide)).trans ((if_neg (by decide)).trans ((if_neg (by decide)).trans (if_pos (by decide))))) ?_
  by_cases c : p3 ≤ fX0_monthLength p1 p2
  · refine GO.of (if_pos c) ?_
    have hv : DV p1 p2 p3 := ⟨(rg hR.1 (by decide : (-9999 : Int32).toInt = -9999) (by decide : (9999 : Int32).toInt = 9999)), hm, hd.1, c⟩
    by_cases c6 : p4 = 6
    · refine GO.of ((if_pos c6).trans peta) ?_
      have := become_eq (th := 0) hI hM hv kT
      rw [← k6 c6] at this ⊢
      exact this
    · refine GO.of ((if_neg c6).trans peta) ?_
      have := become_eq (th := 0) hI hM hv kT
      rw [← kn c6] at this ⊢
      exact this
  · refine GO.of ((if_neg c).trans peta) ?_
    have e2 : gX0_becomeDate S p0 p1 p2 p3 (fX0_handTime S p4) = gX0_refuse S := (if_neg c).trans peta
    rw [e2]
    exact refuse_eq (th := 0) hI
theorem act_of {S : SX} {T : SM} {n : Int64} {p0 p1 p2 p3 p4 c9 : Int32} {n9 : Int64} {S9 : SX} (hR : Rel S T) (h9 : H_of S n p0 p1 p2 p3 p4 c9 n9 S9) : Rel S9 (gX2_of T p0 p1 p2 p3 p4).2 ∧ (fX2_thrown (gX2_of T p0 p1 p2 p3 p4).2 = c9 ∧ (c9 = 0 → n9 = ((gX2_of T p0 p1 p2 p3 p4).1).toInt64)) := by
  obtain ⟨⟨th, rfl⟩, hI⟩ := hR
  rcases h9 with ⟨h, e1, e2, e3⟩ | ⟨hM, h, e1, e2, e3⟩ | ⟨hM, hR, e1, e2, e3⟩
  all_goals (have e1 := e1.symm; have e2 := e2.symm; have e3 := e3.symm; subst e1; subst e2; subst e3)
  · rw [b1_of h]
    exact ⟨⟨⟨_, rfl⟩, hI⟩, rfl, fun z => absurd z (by decide)⟩
  · rw [b2_of hM h]
    exact ⟨⟨⟨_, rfl⟩, hI⟩, rfl, fun z => absurd z (by decide)⟩
  · exact fin_W (g_of (th := th) hI hM hR)
theorem rel_of {S : SX} {T : SM} {n : Int64} {p0 p1 p2 p3 p4 c9 : Int32} {n9 : Int64} {S9 : SX} (hR : Rel S T) (h9 : H_of S n p0 p1 p2 p3 p4 c9 n9 S9) : Rel S9 (gX2_of T p0 p1 p2 p3 p4).2 := (act_of hR h9).1
theorem cmp_of {S : SX} {T : SM} {n : Int64} {p0 p1 p2 p3 p4 c9 : Int32} {n9 : Int64} {S9 : SX} (hR : Rel S T) (h9 : H_of S n p0 p1 p2 p3 p4 c9 n9 S9) : fX2_thrown (gX2_of T p0 p1 p2 p3 p4).2 = c9 ∧ (c9 = 0 → n9 = ((gX2_of T p0 p1 p2 p3 p4).1).toInt64) := (act_of hR h9).2
theorem b1_ofDay {S : SX} {th p0 p1 : Int32} (h : ¬ (vp_in p0 6)) : gX2_ofDay (mkM th S) p0 p1 = ((0 : Int32), mkM 1 S) := by
  unfold gX2_ofDay
  rw [none_1 h]
  exact if_neg (frf_l1 _)
theorem b2_ofDay {S : SX} {th p0 p1 : Int32} (hM : vp_in p0 6) (h : ¬ ((¬ p1 < (-10000000 : Int32) ∧ p1 ≤ (10000000 : Int32)))) : gX2_ofDay (mkM th S) p0 p1 = ((0 : Int32), mkM 2 S) := by
  unfold gX2_ofDay
  rw [none_0 hM, from_0 h]
  exact if_neg (by decide)
theorem g_ofDay {S : SX} {th p0 p1 : Int32} (hI : Inv S) (hM : vp_in p0 6) (hR : (¬ p1 < (-10000000 : Int32) ∧ p1 ≤ (10000000 : Int32))) : GO 0 (gX2_ofDay (mkM th S) p0 p1) (gX0_ofDay S p0 p1) := by
  have e1 : gX2_ofDay (mkM th S) p0 p1 = gX2_becomeDay (mkM 0 S) p0 (p1.toInt64) (fX2_handTime (mkM 0 S) (2 : Int32)) := by
    unfold gX2_ofDay; rw [none_0 hM, from_1 hR.1 hR.2]
    exact (if_pos (by decide)).trans peta
  have e0 : gX0_ofDay S p0 p1 = gX0_becomeDay S p0 (p1.toInt64) (fX0_handTime S (2 : Int32)) := peta
  rw [e1, e0]
  obtain ⟨k6, kn, kT⟩ := hand_go (th := 0) (u := 2) hI (by decide)
  have k := kn (by decide)
  rw [show ((2 : Int32) - (2 : Int32) / (3 : Int32) * (3 : Int32)) = 2 from by decide] at k
  rw [k]
  exact becomeDay_eq hI hM kT
theorem act_ofDay {S : SX} {T : SM} {n : Int64} {p0 p1 c9 : Int32} {n9 : Int64} {S9 : SX} (hR : Rel S T) (h9 : H_ofDay S n p0 p1 c9 n9 S9) : Rel S9 (gX2_ofDay T p0 p1).2 ∧ (fX2_thrown (gX2_ofDay T p0 p1).2 = c9 ∧ (c9 = 0 → n9 = ((gX2_ofDay T p0 p1).1).toInt64)) := by
  obtain ⟨⟨th, rfl⟩, hI⟩ := hR
  rcases h9 with ⟨h, e1, e2, e3⟩ | ⟨hM, h, e1, e2, e3⟩ | ⟨hM, hR, e1, e2, e3⟩
  all_goals (have e1 := e1.symm; have e2 := e2.symm; have e3 := e3.symm; subst e1; subst e2; subst e3)
  · rw [b1_ofDay h]
    exact ⟨⟨⟨_, rfl⟩, hI⟩, rfl, fun z => absurd z (by decide)⟩
  · rw [b2_ofDay hM h]
    exact ⟨⟨⟨_, rfl⟩, hI⟩, rfl, fun z => absurd z (by decide)⟩
  · exact fin_W (g_ofDay (th := th) hI hM hR)
theorem rel_ofDay {S : SX} {T : SM} {n : Int64} {p0 p1 c9 : Int32} {n9 : Int64} {S9 : SX} (hR : Rel S T) (h9 : H_ofDay S n p0 p1 c9 n9 S9) : Rel S9 (gX2_ofDay T p0 p1).2 := (act_ofDay hR h9).1
theorem cmp_ofDay {S : SX} {T : SM} {n : Int64} {p0 p1 c9 : Int32} {n9 : Int64} {S9 : SX} (hR : Rel S T) (h9 : H_ofDay S n p0 p1 c9 n9 S9) : fX2_thrown (gX2_ofDay T p0 p1).2 = c9 ∧ (c9 = 0 → n9 = ((gX2_ofDay T p0 p1).1).toInt64) := (act_ofDay hR h9).2
theorem b1_copy {S : SX} {th p0 p1 : Int32} (h : ¬ (vp_in p0 6 ∧ vp_in p1 6)) : gX2_copy (mkM th S) p0 p1 = ((0 : Int32), mkM 1 S) := by
  unfold gX2_copy
  by_cases h0 : vp_in p0 6
  · rw [none_0 h0, none_1 (fun z => h ⟨h0, z⟩)]
    exact (if_pos rfl).trans (if_neg (frf_l1 _))
  · rw [none_1 h0]
    exact if_neg (by decide)
theorem g_copy {S : SX} {th p0 p1 : Int32} (hI : Inv S) (hM : vp_in p0 6 ∧ vp_in p1 6) : GO 0 (gX2_copy (mkM th S) p0 p1) (gX0_copy S p0 p1) := by
  have e1 : gX2_copy (mkM th S) p0 p1 = gX2_become (mkM 0 S) p0 (xy S p1.toNatClampNeg) (xm S p1.toNatClampNeg) (xd S p1.toNatClampNeg) (xN S p1.toNatClampNeg) := by
    unfold gX2_copy; rw [none_0 hM.1, none_0 hM.2]
    exact ((if_pos rfl).trans (if_pos (by decide))).trans peta
  have e0 : gX0_copy S p0 p1 = gX0_becomeDate S p0 (xy S p1.toNatClampNeg) (xm S p1.toNatClampNeg) (xd S p1.toNatClampNeg) (xN S p1.toNatClampNeg) := (peta (q := gX0_becomeAs S p0 p1 (xN S p1.toNatClampNeg))).trans peta
  rw [e1, e0]
  exact become_eq hI hM.1 (hI.at hM.2) (hI.N hM.2)
theorem act_copy {S : SX} {T : SM} {n : Int64} {p0 p1 c9 : Int32} {n9 : Int64} {S9 : SX} (hR : Rel S T) (h9 : H_copy S n p0 p1 c9 n9 S9) : Rel S9 (gX2_copy T p0 p1).2 ∧ (fX2_thrown (gX2_copy T p0 p1).2 = c9 ∧ (c9 = 0 → n9 = ((gX2_copy T p0 p1).1).toInt64)) := by
  obtain ⟨⟨th, rfl⟩, hI⟩ := hR
  rcases h9 with ⟨h, e1, e2, e3⟩ | ⟨hM, e1, e2, e3⟩
  all_goals (have e1 := e1.symm; have e2 := e2.symm; have e3 := e3.symm; subst e1; subst e2; subst e3)
  · rw [b1_copy h]
    exact ⟨⟨⟨_, rfl⟩, hI⟩, rfl, fun z => absurd z (by decide)⟩
  · exact fin_W (g_copy (th := th) hI hM)
theorem rel_copy {S : SX} {T : SM} {n : Int64} {p0 p1 c9 : Int32} {n9 : Int64} {S9 : SX} (hR : Rel S T) (h9 : H_copy S n p0 p1 c9 n9 S9) : Rel S9 (gX2_copy T p0 p1).2 := (act_copy hR h9).1
theorem cmp_copy {S : SX} {T : SM} {n : Int64} {p0 p1 c9 : Int32} {n9 : Int64} {S9 : SX} (hR : Rel S T) (h9 : H_copy S n p0 p1 c9 n9 S9) : fX2_thrown (gX2_copy T p0 p1).2 = c9 ∧ (c9 = 0 → n9 = ((gX2_copy T p0 p1).1).toInt64) := (act_copy hR h9).2
theorem b1_takeDate {S : SX} {th p0 p1 : Int32} (h : ¬ (vp_in p0 6 ∧ vp_in p1 6)) : gX2_takeDate (mkM th S) p0 p1 = ((0 : Int32), mkM 1 S) := by
  unfold gX2_takeDate
  by_cases h0 : vp_in p0 6
  · rw [none_0 h0, none_1 (fun z => h ⟨h0, z⟩)]
    exact (if_pos rfl).trans (if_neg (frf_l1 _))
  · rw [none_1 h0]
    exact if_neg (by decide)
theorem g_takeDate {S : SX} {th p0 p1 : Int32} (hI : Inv S) (hM : vp_in p0 6 ∧ vp_in p1 6) : GO 0 (gX2_takeDate (mkM th S) p0 p1) (gX0_takeDate S p0 p1) := by
  have e1 : gX2_takeDate (mkM th S) p0 p1 = gX2_become (mkM 0 S) p0 (xy S p1.toNatClampNeg) (xm S p1.toNatClampNeg) (xd S p1.toNatClampNeg) (xN S p0.toNatClampNeg) := by
    unfold gX2_takeDate; rw [none_0 hM.1, none_0 hM.2]
    exact ((if_pos rfl).trans (if_pos (by decide))).trans peta
  have e0 : gX0_takeDate S p0 p1 = gX0_becomeDate S p0 (xy S p1.toNatClampNeg) (xm S p1.toNatClampNeg) (xd S p1.toNatClampNeg) (xN S p0.toNatClampNeg) := (peta (q := gX0_becomeAs S p0 p1 (xN S p0.toNatClampNeg))).trans peta
  rw [e1, e0]
  exact become_eq hI hM.1 (hI.at hM.2) (hI.N hM.1)
theorem act_takeDate {S : SX} {T : SM} {n : Int64} {p0 p1 c9 : Int32} {n9 : Int64} {S9 : SX} (hR : Rel S T) (h9 : H_takeDate S n p0 p1 c9 n9 S9) : Rel S9 (gX2_takeDate T p0 p1).2 ∧ (fX2_thrown (gX2_takeDate T p0 p1).2 = c9 ∧ (c9 = 0 → n9 = ((gX2_takeDate T p0 p1).1).toInt64)) := by
  obtain ⟨⟨th, rfl⟩, hI⟩ := hR
  rcases h9 with ⟨h, e1, e2, e3⟩ | ⟨hM, e1, e2, e3⟩
  all_goals (have e1 := e1.symm; have e2 := e2.symm; have e3 := e3.symm; subst e1; subst e2; subst e3)
  · rw [b1_takeDate h]
    exact ⟨⟨⟨_, rfl⟩, hI⟩, rfl, fun z => absurd z (by decide)⟩
  · exact fin_W (g_takeDate (th := th) hI hM)
theorem rel_takeDate {S : SX} {T : SM} {n : Int64} {p0 p1 c9 : Int32} {n9 : Int64} {S9 : SX} (hR : Rel S T) (h9 : H_takeDate S n p0 p1 c9 n9 S9) : Rel S9 (gX2_takeDate T p0 p1).2 := (act_takeDate hR h9).1
theorem cmp_takeDate {S : SX} {T : SM} {n : Int64} {p0 p1 c9 : Int32} {n9 : Int64} {S9 : SX} (hR : Rel S T) (h9 : H_takeDate S n p0 p1 c9 n9 S9) : fX2_thrown (gX2_takeDate T p0 p1).2 = c9 ∧ (c9 = 0 → n9 = ((gX2_takeDate T p0 p1).1).toInt64) := (act_takeDate hR h9).2
theorem b1_takeTime {S : SX} {th p0 p1 : Int32} (h : ¬ (vp_in p0 6 ∧ vp_in p1 6)) : gX2_takeTime (mkM th S) p0 p1 = ((0 : Int32), mkM 1 S) := by
  unfold gX2_takeTime
  by_cases h0 : vp_in p0 6
  · rw [none_0 h0, none_1 (fun z => h ⟨h0, z⟩)]
    exact (if_pos rfl).trans (if_neg (frf_l1 _))
  · rw [none_1 h0]
    exact if_neg (by decide)
theorem g_takeTime {S : SX} {th p0 p1 : Int32} (hI : Inv S) (hM : vp_in p0 6 ∧ vp_in p1 6) : GO 0 (gX2_takeTime (mkM th S) p0 p1) (gX0_takeTime S p0 p1) := by
  have e1 : gX2_takeTime (mkM th S) p0 p1 = gX2_become (mkM 0 S) p0 (xy S p0.toNatClampNeg) (xm S p0.toNatClampNeg) (xd S p0.toNatClampNeg) (xN S p1.toNatClampNeg) := by
    unfold gX2_takeTime; rw [none_0 hM.1, none_0 hM.2]
    exact ((if_pos rfl).trans (if_pos (by decide))).trans peta
  have e0 : gX0_takeTime S p0 p1 = gX0_becomeDate S p0 (xy S p0.toNatClampNeg) (xm S p0.toNatClampNeg) (xd S p0.toNatClampNeg) (xN S p1.toNatClampNeg) := (peta (q := gX0_becomeAs S p0 p0 (xN S p1.toNatClampNeg))).trans peta
  rw [e1, e0]
  exact become_eq hI hM.1 (hI.at hM.1) (hI.N hM.2)
theorem act_takeTime {S : SX} {T : SM} {n : Int64} {p0 p1 c9 : Int32} {n9 : Int64} {S9 : SX} (hR : Rel S T) (h9 : H_takeTime S n p0 p1 c9 n9 S9) : Rel S9 (gX2_takeTime T p0 p1).2 ∧ (fX2_thrown (gX2_takeTime T p0 p1).2 = c9 ∧ (c9 = 0 → n9 = ((gX2_takeTime T p0 p1).1).toInt64)) := by
  obtain ⟨⟨th, rfl⟩, hI⟩ := hR
  rcases h9 with ⟨h, e1, e2, e3⟩ | ⟨hM, e1, e2, e3⟩
  all_goals (have e1 := e1.symm; have e2 := e2.symm; have e3 := e3.symm; subst e1; subst e2; subst e3)
  · rw [b1_takeTime h]
    exact ⟨⟨⟨_, rfl⟩, hI⟩, rfl, fun z => absurd z (by decide)⟩
  · exact fin_W (g_takeTime (th := th) hI hM)
theorem rel_takeTime {S : SX} {T : SM} {n : Int64} {p0 p1 c9 : Int32} {n9 : Int64} {S9 : SX} (hR : Rel S T) (h9 : H_takeTime S n p0 p1 c9 n9 S9) : Rel S9 (gX2_takeTime T p0 p1).2 := (act_takeTime hR h9).1
theorem cmp_takeTime {S : SX} {T : SM} {n : Int64} {p0 p1 c9 : Int32} {n9 : Int64} {S9 : SX} (hR : Rel S T) (h9 : H_takeTime S n p0 p1 c9 n9 S9) : fX2_thrown (gX2_takeTime T p0 p1).2 = c9 ∧ (c9 = 0 → n9 = ((gX2_takeTime T p0 p1).1).toInt64) := (act_takeTime hR h9).2
theorem b1_withYear {S : SX} {th p0 p1 : Int32} (h : ¬ (vp_in p0 6)) : gX2_withYear (mkM th S) p0 p1 = ((0 : Int32), mkM 1 S) := by
  unfold gX2_withYear
  rw [none_1 h]
  exact if_neg (frf_l1 _)
theorem b2_withYear {S : SX} {th p0 p1 : Int32} (hM : vp_in p0 6) (h : ¬ ((¬ p1 < (-9999 : Int32) ∧ p1 ≤ (9999 : Int32)))) : gX2_withYear (mkM th S) p0 p1 = ((0 : Int32), mkM 2 S) := by
  unfold gX2_withYear
  rw [none_0 hM, from_0 h]
  exact if_neg (by decide)
theorem g_withYear {S : SX} {th p0 p1 : Int32} (hI : Inv S) (hM : vp_in p0 6) (hR : (¬ p1 < (-9999 : Int32) ∧ p1 ≤ (9999 : Int32))) : GO 0 (gX2_withYear (mkM th S) p0 p1) (gX0_withYear S p0 p1) := by
  have e1 : gX2_withYear (mkM th S) p0 p1 = gX2_becomeMonth (mkM 0 S) p0 (p1.toInt64) (xm S p0.toNatClampNeg) := by
    unfold gX2_withYear; rw [none_0 hM, from_1 hR.1 hR.2]
    exact (if_pos (by decide)).trans peta
  have e0 : gX0_withYear S p0 p1 = gX0_becomeMonth S p0 p1 (xm S p0.toNatClampNeg) := peta
  rw [e1, e0]
  exact becomeMonth_eq hI hM (oL rfl) (rg hR (by decide : (-9999 : Int32).toInt = -9999) (by decide : (9999 : Int32).toInt = 9999)) (hI.at hM).2.1
theorem act_withYear {S : SX} {T : SM} {n : Int64} {p0 p1 c9 : Int32} {n9 : Int64} {S9 : SX} (hR : Rel S T) (h9 : H_withYear S n p0 p1 c9 n9 S9) : Rel S9 (gX2_withYear T p0 p1).2 ∧ (fX2_thrown (gX2_withYear T p0 p1).2 = c9 ∧ (c9 = 0 → n9 = ((gX2_withYear T p0 p1).1).toInt64)) := by
  obtain ⟨⟨th, rfl⟩, hI⟩ := hR
  rcases h9 with ⟨h, e1, e2, e3⟩ | ⟨hM, h, e1, e2, e3⟩ | ⟨hM, hR, e1, e2, e3⟩
  all_goals (have e1 := e1.symm; have e2 := e2.symm; have e3 := e3.symm; subst e1; subst e2; subst e3)
  · rw [b1_withYear h]
    exact ⟨⟨⟨_, rfl⟩, hI⟩, rfl, fun z => absurd z (by decide)⟩
  · rw [b2_withYear hM h]
    exact ⟨⟨⟨_, rfl⟩, hI⟩, rfl, fun z => absurd z (by decide)⟩
  · exact fin_W (g_withYear (th := th) hI hM hR)
theorem rel_withYear {S : SX} {T : SM} {n : Int64} {p0 p1 c9 : Int32} {n9 : Int64} {S9 : SX} (hR : Rel S T) (h9 : H_withYear S n p0 p1 c9 n9 S9) : Rel S9 (gX2_withYear T p0 p1).2 := (act_withYear hR h9).1
theorem cmp_withYear {S : SX} {T : SM} {n : Int64} {p0 p1 c9 : Int32} {n9 : Int64} {S9 : SX} (hR : Rel S T) (h9 : H_withYear S n p0 p1 c9 n9 S9) : fX2_thrown (gX2_withYear T p0 p1).2 = c9 ∧ (c9 = 0 → n9 = ((gX2_withYear T p0 p1).1).toInt64) := (act_withYear hR h9).2
theorem b1_withMonth {S : SX} {th p0 p1 : Int32} (h : ¬ (vp_in p0 6)) : gX2_withMonth (mkM th S) p0 p1 = ((0 : Int32), mkM 1 S) := by
  unfold gX2_withMonth
  rw [none_1 h]
  exact if_neg (frf_l1 _)
theorem b2_withMonth {S : SX} {th p0 p1 : Int32} (hM : vp_in p0 6) (h : ¬ ((¬ p1 < (1 : Int32) ∧ p1 ≤ (12 : Int32)))) : gX2_withMonth (mkM th S) p0 p1 = ((0 : Int32), mkM 2 S) := by
  unfold gX2_withMonth
  rw [none_0 hM, from_0 h]
  exact if_neg (by decide)
theorem g_withMonth {S : SX} {th p0 p1 : Int32} (hI : Inv S) (hM : vp_in p0 6) (hR : (¬ p1 < (1 : Int32) ∧ p1 ≤ (12 : Int32))) : GO 0 (gX2_withMonth (mkM th S) p0 p1) (gX0_withMonth S p0 p1) := by
  have e1 : gX2_withMonth (mkM th S) p0 p1 = gX2_becomeMonth (mkM 0 S) p0 ((xy S p0.toNatClampNeg).toInt64) p1 := by
    unfold gX2_withMonth; rw [none_0 hM, from_1 hR.1 hR.2]
    exact (if_pos (by decide)).trans peta
  have e0 : gX0_withMonth S p0 p1 = gX0_becomeMonth S p0 (xy S p0.toNatClampNeg) p1 := peta
  rw [e1, e0]
  exact becomeMonth_eq hI hM (oL rfl) (hI.at hM).1 (rg hR (by decide : (1 : Int32).toInt = 1) (by decide : (12 : Int32).toInt = 12))
theorem act_withMonth {S : SX} {T : SM} {n : Int64} {p0 p1 c9 : Int32} {n9 : Int64} {S9 : SX} (hR : Rel S T) (h9 : H_withMonth S n p0 p1 c9 n9 S9) : Rel S9 (gX2_withMonth T p0 p1).2 ∧ (fX2_thrown (gX2_withMonth T p0 p1).2 = c9 ∧ (c9 = 0 → n9 = ((gX2_withMonth T p0 p1).1).toInt64)) := by
  obtain ⟨⟨th, rfl⟩, hI⟩ := hR
  rcases h9 with ⟨h, e1, e2, e3⟩ | ⟨hM, h, e1, e2, e3⟩ | ⟨hM, hR, e1, e2, e3⟩
  all_goals (have e1 := e1.symm; have e2 := e2.symm; have e3 := e3.symm; subst e1; subst e2; subst e3)
  · rw [b1_withMonth h]
    exact ⟨⟨⟨_, rfl⟩, hI⟩, rfl, fun z => absurd z (by decide)⟩
  · rw [b2_withMonth hM h]
    exact ⟨⟨⟨_, rfl⟩, hI⟩, rfl, fun z => absurd z (by decide)⟩
  · exact fin_W (g_withMonth (th := th) hI hM hR)
theorem rel_withMonth {S : SX} {T : SM} {n : Int64} {p0 p1 c9 : Int32} {n9 : Int64} {S9 : SX} (hR : Rel S T) (h9 : H_withMonth S n p0 p1 c9 n9 S9) : Rel S9 (gX2_withMonth T p0 p1).2 := (act_withMonth hR h9).1
theorem cmp_withMonth {S : SX} {T : SM} {n : Int64} {p0 p1 c9 : Int32} {n9 : Int64} {S9 : SX} (hR : Rel S T) (h9 : H_withMonth S n p0 p1 c9 n9 S9) : fX2_thrown (gX2_withMonth T p0 p1).2 = c9 ∧ (c9 = 0 → n9 = ((gX2_withMonth T p0 p1).1).toInt64) := (act_withMonth hR h9).2
theorem b1_withDayOfMonth {S : SX} {th p0 p1 : Int32} (h : ¬ (vp_in p0 6)) : gX2_withDayOfMonth (mkM th S) p0 p1 = ((0 : Int32), mkM 1 S) := by
  unfold gX2_withDayOfMonth
  rw [none_1 h]
  exact if_neg (frf_l1 _)
theorem b2_withDayOfMonth {S : SX} {th p0 p1 : Int32} (hM : vp_in p0 6) (h : ¬ ((¬ p1 < (1 : Int32) ∧ p1 ≤ (31 : Int32)))) : gX2_withDayOfMonth (mkM th S) p0 p1 = ((0 : Int32), mkM 2 S) := by
  unfold gX2_withDayOfMonth
  rw [none_0 hM, from_0 h]
  exact if_neg (by decide)
theorem g_withDayOfMonth {S : SX} {th p0 p1 : Int32} (hI : Inv S) (hM : vp_in p0 6) (hR : (¬ p1 < (1 : Int32) ∧ p1 ≤ (31 : Int32))) : GO 0 (gX2_withDayOfMonth (mkM th S) p0 p1) (gX0_withDayOfMonth S p0 p1) := by
  have hv := hI.at hM
  have e0 : gX0_withDayOfMonth S p0 p1 = gX0_becomeDate S p0 (xy S p0.toNatClampNeg) (xm S p0.toNatClampNeg) p1 (xN S p0.toNatClampNeg) := peta
  rw [e0]
  unfold gX2_withDayOfMonth; rw [none_0 hM, from_1 hR.1 hR.2]
  refine GO.of (if_pos (by decide)) ?_
  have hl : fX2_daysOf (my (mkM th S) p0.toNatClampNeg) (mm (mkM th S) p0.toNatClampNeg) = fX0_monthLength (xy S p0.toNatClampNeg) (xm S p0.toNatClampNeg) := len_eq hv.2.1
  rw [hl]
  by_cases c : p1 ≤ fX0_monthLength (xy S p0.toNatClampNeg) (xm S p0.toNatClampNeg)
  · refine GO.of ((if_pos c).trans peta) ?_
    exact become_eq (th := 0) hI hM ⟨hv.1, hv.2.1, (rg hR (by decide : (1 : Int32).toInt = 1) (by decide : (31 : Int32).toInt = 31)).1, c⟩ (hI.N hM)
  · refine GO.of ((if_neg c).trans peta) ?_
    have e2 : gX0_becomeDate S p0 (xy S p0.toNatClampNeg) (xm S p0.toNatClampNeg) p1 (xN S p0.toNatClampNeg) = gX0_refuse S := (if_neg c).trans peta
    rw [e2]
    exact refuse_eq (th := 0) hI
theorem act_withDayOfMonth {S : SX} {T : SM} {n : Int64} {p0 p1 c9 : Int32} {n9 : Int64} {S9 : SX} (hR : Rel S T) (h9 : H_withDayOfMonth S n p0 p1 c9 n9 S9) : Rel S9 (gX2_withDayOfMonth T p0 p1).2 ∧ (fX2_thrown (gX2_withDayOfMonth T p0 p1).2 = c9 ∧ (c9 = 0 → n9 = ((gX2_withDayOfMonth T p0 p1).1).toInt64)) := by
  obtain ⟨⟨th, rfl⟩, hI⟩ := hR
  rcases h9 with ⟨h, e1, e2, e3⟩ | ⟨hM, h, e1, e2, e3⟩ | ⟨hM, hR, e1, e2, e3⟩
  all_goals (have e1 := e1.symm; have e2 := e2.symm; have e3 := e3.symm; subst e1; subst e2; subst e3)
  · rw [b1_withDayOfMonth h]
    exact ⟨⟨⟨_, rfl⟩, hI⟩, rfl, fun z => absurd z (by decide)⟩
  · rw [b2_withDayOfMonth hM h]
    exact ⟨⟨⟨_, rfl⟩, hI⟩, rfl, fun z => absurd z (by decide)⟩
  · exact fin_W (g_withDayOfMonth (th := th) hI hM hR)
theorem rel_withDayOfMonth {S : SX} {T : SM} {n : Int64} {p0 p1 c9 : Int32} {n9 : Int64} {S9 : SX} (hR : Rel S T) (h9 : H_withDayOfMonth S n p0 p1 c9 n9 S9) : Rel S9 (gX2_withDayOfMonth T p0 p1).2 := (act_withDayOfMonth hR h9).1
theorem cmp_withDayOfMonth {S : SX} {T : SM} {n : Int64} {p0 p1 c9 : Int32} {n9 : Int64} {S9 : SX} (hR : Rel S T) (h9 : H_withDayOfMonth S n p0 p1 c9 n9 S9) : fX2_thrown (gX2_withDayOfMonth T p0 p1).2 = c9 ∧ (c9 = 0 → n9 = ((gX2_withDayOfMonth T p0 p1).1).toInt64) := (act_withDayOfMonth hR h9).2
theorem b1_withDayOfYear {S : SX} {th p0 p1 : Int32} (h : ¬ (vp_in p0 6)) : gX2_withDayOfYear (mkM th S) p0 p1 = ((0 : Int32), mkM 1 S) := by
  unfold gX2_withDayOfYear
  rw [none_1 h]
  exact if_neg (frf_l1 _)
theorem b2_withDayOfYear {S : SX} {th p0 p1 : Int32} (hM : vp_in p0 6) (h : ¬ ((¬ p1 < (1 : Int32) ∧ p1 ≤ (366 : Int32)))) : gX2_withDayOfYear (mkM th S) p0 p1 = ((0 : Int32), mkM 2 S) := by
  unfold gX2_withDayOfYear
  rw [none_0 hM, from_0 h]
  exact if_neg (by decide)
theorem g_withDayOfYear {S : SX} {th p0 p1 : Int32} (hI : Inv S) (hM : vp_in p0 6) (hR : (¬ p1 < (1 : Int32) ∧ p1 ≤ (366 : Int32))) : GO 0 (gX2_withDayOfYear (mkM th S) p0 p1) (gX0_withDayOfYear S p0 p1) := by
  have hv := hI.at hM
  unfold gX2_withDayOfYear gX0_withDayOfYear; rw [none_0 hM, from_1 hR.1 hR.2]
  refine GO.of (if_pos (by decide)) ?_
  have hl : fX2_daysOf_ (my (mkM th S) p0.toNatClampNeg) = fX0_yearLength (xy S p0.toNatClampNeg) := ylen_eq _
  rw [hl]
  by_cases c : p1 ≤ fX0_yearLength (xy S p0.toNatClampNeg)
  · rw [if_pos c, if_pos c]
    have ed : (((fX2_dayOf (my (mkM th S) p0.toNatClampNeg) (1 : Int32) (1 : Int32)) + (p1.toInt64)) - (1 : Int64)) = (((fX0_firstDayOf (xy S p0.toNatClampNeg)) + (p1.toInt64)) - (1 : Int64)) := by
      have := first_1 hv.1
      exact congrArg (fun z => (z + p1.toInt64) - (1 : Int64)) this
    rw [ed]
    exact becomeDay_eq (th := 0) hI hM (hI.N hM)
  · rw [if_neg c, if_neg c]
    exact refuse_eq (th := 0) hI
theorem act_withDayOfYear {S : SX} {T : SM} {n : Int64} {p0 p1 c9 : Int32} {n9 : Int64} {S9 : SX} (hR : Rel S T) (h9 : H_withDayOfYear S n p0 p1 c9 n9 S9) : Rel S9 (gX2_withDayOfYear T p0 p1).2 ∧ (fX2_thrown (gX2_withDayOfYear T p0 p1).2 = c9 ∧ (c9 = 0 → n9 = ((gX2_withDayOfYear T p0 p1).1).toInt64)) := by
  obtain ⟨⟨th, rfl⟩, hI⟩ := hR
  rcases h9 with ⟨h, e1, e2, e3⟩ | ⟨hM, h, e1, e2, e3⟩ | ⟨hM, hR, e1, e2, e3⟩
  all_goals (have e1 := e1.symm; have e2 := e2.symm; have e3 := e3.symm; subst e1; subst e2; subst e3)
  · rw [b1_withDayOfYear h]
    exact ⟨⟨⟨_, rfl⟩, hI⟩, rfl, fun z => absurd z (by decide)⟩
  · rw [b2_withDayOfYear hM h]
    exact ⟨⟨⟨_, rfl⟩, hI⟩, rfl, fun z => absurd z (by decide)⟩
  · exact fin_W (g_withDayOfYear (th := th) hI hM hR)
theorem rel_withDayOfYear {S : SX} {T : SM} {n : Int64} {p0 p1 c9 : Int32} {n9 : Int64} {S9 : SX} (hR : Rel S T) (h9 : H_withDayOfYear S n p0 p1 c9 n9 S9) : Rel S9 (gX2_withDayOfYear T p0 p1).2 := (act_withDayOfYear hR h9).1
theorem cmp_withDayOfYear {S : SX} {T : SM} {n : Int64} {p0 p1 c9 : Int32} {n9 : Int64} {S9 : SX} (hR : Rel S T) (h9 : H_withDayOfYear S n p0 p1 c9 n9 S9) : fX2_thrown (gX2_withDayOfYear T p0 p1).2 = c9 ∧ (c9 = 0 → n9 = ((gX2_withDayOfYear T p0 p1).1).toInt64) := (act_withDayOfYear hR h9).2
theorem b1_withHour {S : SX} {th p0 p1 : Int32} (h : ¬ (vp_in p0 6)) : gX2_withHour (mkM th S) p0 p1 = ((0 : Int32), mkM 1 S) := by
  unfold gX2_withHour
  rw [none_1 h]
  exact if_neg (frf_l1 _)
theorem b2_withHour {S : SX} {th p0 p1 : Int32} (hM : vp_in p0 6) (h : ¬ ((¬ p1 < (0 : Int32) ∧ p1 ≤ (23 : Int32)))) : gX2_withHour (mkM th S) p0 p1 = ((0 : Int32), mkM 2 S) := by
  unfold gX2_withHour
  rw [none_0 hM, from_0 h]
  exact if_neg (by decide)
theorem g_withHour {S : SX} {th p0 p1 : Int32} (hI : Inv S) (hM : vp_in p0 6) (hR : (¬ p1 < (0 : Int32) ∧ p1 ≤ (23 : Int32))) : GO 0 (gX2_withHour (mkM th S) p0 p1) (gX0_withHour S p0 p1) := by
  obtain ⟨w1, w2⟩ := wh_eq (q := p1) (hI.N hM) (rg hR (by decide : (0 : Int32).toInt = 0) (by decide : (23 : Int32).toInt = 23))
  have e1 : gX2_withHour (mkM th S) p0 p1 = gX2_withPart (mkM 0 S) p0 (3600000000000 : Int64) (24 : Int64) (p1.toInt64) := by
    unfold gX2_withHour; rw [none_0 hM, from_1 hR.1 hR.2]
    exact (if_pos (by decide)).trans peta
  have e2 : gX2_withPart (mkM 0 S) p0 (3600000000000 : Int64) (24 : Int64) (p1.toInt64) = gX2_become (mkM 0 S) p0 (xy S p0.toNatClampNeg) (xm S p0.toNatClampNeg) (xd S p0.toNatClampNeg) (((((xN S p0.toNatClampNeg) / ((3600000000000 : Int64) * (24 : Int64))) * ((3600000000000 : Int64) * (24 : Int64))) + ((p1.toInt64) * (3600000000000 : Int64))) + ((xN S p0.toNatClampNeg) - (xN S p0.toNatClampNeg) / (3600000000000 : Int64) * (3600000000000 : Int64))) := peta
  have e0 : gX0_withHour S p0 p1 = gX0_becomeDate S p0 (xy S p0.toNatClampNeg) (xm S p0.toNatClampNeg) (xd S p0.toNatClampNeg) ((xN S p0.toNatClampNeg) + (((p1 - (fX0_hourOf (xN S p0.toNatClampNeg))).toInt64) * (3600000000000 : Int64))) := (peta (q := gX0_becomeAs S p0 p0 ((xN S p0.toNatClampNeg) + (((p1 - (fX0_hourOf (xN S p0.toNatClampNeg))).toInt64) * (3600000000000 : Int64))))).trans peta
  rw [e1, e2, e0, w1]
  exact become_eq hI hM (hI.at hM) w2
theorem act_withHour {S : SX} {T : SM} {n : Int64} {p0 p1 c9 : Int32} {n9 : Int64} {S9 : SX} (hR : Rel S T) (h9 : H_withHour S n p0 p1 c9 n9 S9) : Rel S9 (gX2_withHour T p0 p1).2 ∧ (fX2_thrown (gX2_withHour T p0 p1).2 = c9 ∧ (c9 = 0 → n9 = ((gX2_withHour T p0 p1).1).toInt64)) := by
  obtain ⟨⟨th, rfl⟩, hI⟩ := hR
  rcases h9 with ⟨h, e1, e2, e3⟩ | ⟨hM, h, e1, e2, e3⟩ | ⟨hM, hR, e1, e2, e3⟩
  all_goals (have e1 := e1.symm; have e2 := e2.symm; have e3 := e3.symm; subst e1; subst e2; subst e3)
  · rw [b1_withHour h]
    exact ⟨⟨⟨_, rfl⟩, hI⟩, rfl, fun z => absurd z (by decide)⟩
  · rw [b2_withHour hM h]
    exact ⟨⟨⟨_, rfl⟩, hI⟩, rfl, fun z => absurd z (by decide)⟩
  · exact fin_W (g_withHour (th := th) hI hM hR)
theorem rel_withHour {S : SX} {T : SM} {n : Int64} {p0 p1 c9 : Int32} {n9 : Int64} {S9 : SX} (hR : Rel S T) (h9 : H_withHour S n p0 p1 c9 n9 S9) : Rel S9 (gX2_withHour T p0 p1).2 := (act_withHour hR h9).1
theorem cmp_withHour {S : SX} {T : SM} {n : Int64} {p0 p1 c9 : Int32} {n9 : Int64} {S9 : SX} (hR : Rel S T) (h9 : H_withHour S n p0 p1 c9 n9 S9) : fX2_thrown (gX2_withHour T p0 p1).2 = c9 ∧ (c9 = 0 → n9 = ((gX2_withHour T p0 p1).1).toInt64) := (act_withHour hR h9).2
theorem b1_withMinute {S : SX} {th p0 p1 : Int32} (h : ¬ (vp_in p0 6)) : gX2_withMinute (mkM th S) p0 p1 = ((0 : Int32), mkM 1 S) := by
  unfold gX2_withMinute
  rw [none_1 h]
  exact if_neg (frf_l1 _)
theorem b2_withMinute {S : SX} {th p0 p1 : Int32} (hM : vp_in p0 6) (h : ¬ ((¬ p1 < (0 : Int32) ∧ p1 ≤ (59 : Int32)))) : gX2_withMinute (mkM th S) p0 p1 = ((0 : Int32), mkM 2 S) := by
  unfold gX2_withMinute
  rw [none_0 hM, from_0 h]
  exact if_neg (by decide)
theorem g_withMinute {S : SX} {th p0 p1 : Int32} (hI : Inv S) (hM : vp_in p0 6) (hR : (¬ p1 < (0 : Int32) ∧ p1 ≤ (59 : Int32))) : GO 0 (gX2_withMinute (mkM th S) p0 p1) (gX0_withMinute S p0 p1) := by
  obtain ⟨w1, w2⟩ := wm_eq (q := p1) (hI.N hM) (rg hR (by decide : (0 : Int32).toInt = 0) (by decide : (59 : Int32).toInt = 59))
  have e1 : gX2_withMinute (mkM th S) p0 p1 = gX2_withPart (mkM 0 S) p0 (60000000000 : Int64) (60 : Int64) (p1.toInt64) := by
    unfold gX2_withMinute; rw [none_0 hM, from_1 hR.1 hR.2]
    exact (if_pos (by decide)).trans peta
  have e2 : gX2_withPart (mkM 0 S) p0 (60000000000 : Int64) (60 : Int64) (p1.toInt64) = gX2_become (mkM 0 S) p0 (xy S p0.toNatClampNeg) (xm S p0.toNatClampNeg) (xd S p0.toNatClampNeg) (((((xN S p0.toNatClampNeg) / ((60000000000 : Int64) * (60 : Int64))) * ((60000000000 : Int64) * (60 : Int64))) + ((p1.toInt64) * (60000000000 : Int64))) + ((xN S p0.toNatClampNeg) - (xN S p0.toNatClampNeg) / (60000000000 : Int64) * (60000000000 : Int64))) := peta
  have e0 : gX0_withMinute S p0 p1 = gX0_becomeDate S p0 (xy S p0.toNatClampNeg) (xm S p0.toNatClampNeg) (xd S p0.toNatClampNeg) ((xN S p0.toNatClampNeg) + (((p1 - (fX0_minuteOf (xN S p0.toNatClampNeg))).toInt64) * (60000000000 : Int64))) := (peta (q := gX0_becomeAs S p0 p0 ((xN S p0.toNatClampNeg) + (((p1 - (fX0_minuteOf (xN S p0.toNatClampNeg))).toInt64) * (60000000000 : Int64))))).trans peta
  rw [e1, e2, e0, w1]
  exact become_eq hI hM (hI.at hM) w2
theorem act_withMinute {S : SX} {T : SM} {n : Int64} {p0 p1 c9 : Int32} {n9 : Int64} {S9 : SX} (hR : Rel S T) (h9 : H_withMinute S n p0 p1 c9 n9 S9) : Rel S9 (gX2_withMinute T p0 p1).2 ∧ (fX2_thrown (gX2_withMinute T p0 p1).2 = c9 ∧ (c9 = 0 → n9 = ((gX2_withMinute T p0 p1).1).toInt64)) := by
  obtain ⟨⟨th, rfl⟩, hI⟩ := hR
  rcases h9 with ⟨h, e1, e2, e3⟩ | ⟨hM, h, e1, e2, e3⟩ | ⟨hM, hR, e1, e2, e3⟩
  all_goals (have e1 := e1.symm; have e2 := e2.symm; have e3 := e3.symm; subst e1; subst e2; subst e3)
  · rw [b1_withMinute h]
    exact ⟨⟨⟨_, rfl⟩, hI⟩, rfl, fun z => absurd z (by decide)⟩
  · rw [b2_withMinute hM h]
    exact ⟨⟨⟨_, rfl⟩, hI⟩, rfl, fun z => absurd z (by decide)⟩
  · exact fin_W (g_withMinute (th := th) hI hM hR)
theorem rel_withMinute {S : SX} {T : SM} {n : Int64} {p0 p1 c9 : Int32} {n9 : Int64} {S9 : SX} (hR : Rel S T) (h9 : H_withMinute S n p0 p1 c9 n9 S9) : Rel S9 (gX2_withMinute T p0 p1).2 := (act_withMinute hR h9).1
theorem cmp_withMinute {S : SX} {T : SM} {n : Int64} {p0 p1 c9 : Int32} {n9 : Int64} {S9 : SX} (hR : Rel S T) (h9 : H_withMinute S n p0 p1 c9 n9 S9) : fX2_thrown (gX2_withMinute T p0 p1).2 = c9 ∧ (c9 = 0 → n9 = ((gX2_withMinute T p0 p1).1).toInt64) := (act_withMinute hR h9).2
theorem b1_withSecond {S : SX} {th p0 p1 : Int32} (h : ¬ (vp_in p0 6)) : gX2_withSecond (mkM th S) p0 p1 = ((0 : Int32), mkM 1 S) := by
  unfold gX2_withSecond
  rw [none_1 h]
  exact if_neg (frf_l1 _)
theorem b2_withSecond {S : SX} {th p0 p1 : Int32} (hM : vp_in p0 6) (h : ¬ ((¬ p1 < (0 : Int32) ∧ p1 ≤ (59 : Int32)))) : gX2_withSecond (mkM th S) p0 p1 = ((0 : Int32), mkM 2 S) := by
  unfold gX2_withSecond
  rw [none_0 hM, from_0 h]
  exact if_neg (by decide)
theorem g_withSecond {S : SX} {th p0 p1 : Int32} (hI : Inv S) (hM : vp_in p0 6) (hR : (¬ p1 < (0 : Int32) ∧ p1 ≤ (59 : Int32))) : GO 0 (gX2_withSecond (mkM th S) p0 p1) (gX0_withSecond S p0 p1) := by
  obtain ⟨w1, w2⟩ := ws_eq (q := p1) (hI.N hM) (rg hR (by decide : (0 : Int32).toInt = 0) (by decide : (59 : Int32).toInt = 59))
  have e1 : gX2_withSecond (mkM th S) p0 p1 = gX2_withPart (mkM 0 S) p0 (1000000000 : Int64) (60 : Int64) (p1.toInt64) := by
    unfold gX2_withSecond; rw [none_0 hM, from_1 hR.1 hR.2]
    exact (if_pos (by decide)).trans peta
  have e2 : gX2_withPart (mkM 0 S) p0 (1000000000 : Int64) (60 : Int64) (p1.toInt64) = gX2_become (mkM 0 S) p0 (xy S p0.toNatClampNeg) (xm S p0.toNatClampNeg) (xd S p0.toNatClampNeg) (((((xN S p0.toNatClampNeg) / ((1000000000 : Int64) * (60 : Int64))) * ((1000000000 : Int64) * (60 : Int64))) + ((p1.toInt64) * (1000000000 : Int64))) + ((xN S p0.toNatClampNeg) - (xN S p0.toNatClampNeg) / (1000000000 : Int64) * (1000000000 : Int64))) := peta
  have e0 : gX0_withSecond S p0 p1 = gX0_becomeDate S p0 (xy S p0.toNatClampNeg) (xm S p0.toNatClampNeg) (xd S p0.toNatClampNeg) ((xN S p0.toNatClampNeg) + (((p1 - (fX0_secondOf (xN S p0.toNatClampNeg))).toInt64) * (1000000000 : Int64))) := (peta (q := gX0_becomeAs S p0 p0 ((xN S p0.toNatClampNeg) + (((p1 - (fX0_secondOf (xN S p0.toNatClampNeg))).toInt64) * (1000000000 : Int64))))).trans peta
  rw [e1, e2, e0, w1]
  exact become_eq hI hM (hI.at hM) w2
theorem act_withSecond {S : SX} {T : SM} {n : Int64} {p0 p1 c9 : Int32} {n9 : Int64} {S9 : SX} (hR : Rel S T) (h9 : H_withSecond S n p0 p1 c9 n9 S9) : Rel S9 (gX2_withSecond T p0 p1).2 ∧ (fX2_thrown (gX2_withSecond T p0 p1).2 = c9 ∧ (c9 = 0 → n9 = ((gX2_withSecond T p0 p1).1).toInt64)) := by
  obtain ⟨⟨th, rfl⟩, hI⟩ := hR
  rcases h9 with ⟨h, e1, e2, e3⟩ | ⟨hM, h, e1, e2, e3⟩ | ⟨hM, hR, e1, e2, e3⟩
  all_goals (have e1 := e1.symm; have e2 := e2.symm; have e3 := e3.symm; subst e1; subst e2; subst e3)
  · rw [b1_withSecond h]
    exact ⟨⟨⟨_, rfl⟩, hI⟩, rfl, fun z => absurd z (by decide)⟩
  · rw [b2_withSecond hM h]
    exact ⟨⟨⟨_, rfl⟩, hI⟩, rfl, fun z => absurd z (by decide)⟩
  · exact fin_W (g_withSecond (th := th) hI hM hR)
theorem rel_withSecond {S : SX} {T : SM} {n : Int64} {p0 p1 c9 : Int32} {n9 : Int64} {S9 : SX} (hR : Rel S T) (h9 : H_withSecond S n p0 p1 c9 n9 S9) : Rel S9 (gX2_withSecond T p0 p1).2 := (act_withSecond hR h9).1
theorem cmp_withSecond {S : SX} {T : SM} {n : Int64} {p0 p1 c9 : Int32} {n9 : Int64} {S9 : SX} (hR : Rel S T) (h9 : H_withSecond S n p0 p1 c9 n9 S9) : fX2_thrown (gX2_withSecond T p0 p1).2 = c9 ∧ (c9 = 0 → n9 = ((gX2_withSecond T p0 p1).1).toInt64) := (act_withSecond hR h9).2
theorem b1_withNano {S : SX} {th p0 p1 : Int32} (h : ¬ (vp_in p0 6)) : gX2_withNano (mkM th S) p0 p1 = ((0 : Int32), mkM 1 S) := by
  unfold gX2_withNano
  rw [none_1 h]
  exact if_neg (frf_l1 _)
theorem b2_withNano {S : SX} {th p0 p1 : Int32} (hM : vp_in p0 6) (h : ¬ ((¬ p1 < (0 : Int32) ∧ p1 ≤ (999999999 : Int32)))) : gX2_withNano (mkM th S) p0 p1 = ((0 : Int32), mkM 2 S) := by
  unfold gX2_withNano
  rw [none_0 hM, from_0 h]
  exact if_neg (by decide)
theorem g_withNano {S : SX} {th p0 p1 : Int32} (hI : Inv S) (hM : vp_in p0 6) (hR : (¬ p1 < (0 : Int32) ∧ p1 ≤ (999999999 : Int32))) : GO 0 (gX2_withNano (mkM th S) p0 p1) (gX0_withNano S p0 p1) := by
  obtain ⟨w1, w2⟩ := wn_eq (q := p1) (hI.N hM) (rg hR (by decide : (0 : Int32).toInt = 0) (by decide : (999999999 : Int32).toInt = 999999999))
  have e1 : gX2_withNano (mkM th S) p0 p1 = gX2_withPart (mkM 0 S) p0 (1 : Int64) (1000000000 : Int64) (p1.toInt64) := by
    unfold gX2_withNano; rw [none_0 hM, from_1 hR.1 hR.2]
    exact (if_pos (by decide)).trans peta
  have e2 : gX2_withPart (mkM 0 S) p0 (1 : Int64) (1000000000 : Int64) (p1.toInt64) = gX2_become (mkM 0 S) p0 (xy S p0.toNatClampNeg) (xm S p0.toNatClampNeg) (xd S p0.toNatClampNeg) (((((xN S p0.toNatClampNeg) / ((1 : Int64) * (1000000000 : Int64))) * ((1 : Int64) * (1000000000 : Int64))) + ((p1.toInt64) * (1 : Int64))) + ((xN S p0.toNatClampNeg) - (xN S p0.toNatClampNeg) / (1 : Int64) * (1 : Int64))) := peta
  have e0 : gX0_withNano S p0 p1 = gX0_becomeDate S p0 (xy S p0.toNatClampNeg) (xm S p0.toNatClampNeg) (xd S p0.toNatClampNeg) (((xN S p0.toNatClampNeg) + (p1.toInt64)) - ((fX0_nanoOfSecond (xN S p0.toNatClampNeg)).toInt64)) := (peta (q := gX0_becomeAs S p0 p0 (((xN S p0.toNatClampNeg) + (p1.toInt64)) - ((fX0_nanoOfSecond (xN S p0.toNatClampNeg)).toInt64)))).trans peta
  rw [e1, e2, e0, w1]
  exact become_eq hI hM (hI.at hM) w2
theorem act_withNano {S : SX} {T : SM} {n : Int64} {p0 p1 c9 : Int32} {n9 : Int64} {S9 : SX} (hR : Rel S T) (h9 : H_withNano S n p0 p1 c9 n9 S9) : Rel S9 (gX2_withNano T p0 p1).2 ∧ (fX2_thrown (gX2_withNano T p0 p1).2 = c9 ∧ (c9 = 0 → n9 = ((gX2_withNano T p0 p1).1).toInt64)) := by
  obtain ⟨⟨th, rfl⟩, hI⟩ := hR
  rcases h9 with ⟨h, e1, e2, e3⟩ | ⟨hM, h, e1, e2, e3⟩ | ⟨hM, hR, e1, e2, e3⟩
  all_goals (have e1 := e1.symm; have e2 := e2.symm; have e3 := e3.symm; subst e1; subst e2; subst e3)
  · rw [b1_withNano h]
    exact ⟨⟨⟨_, rfl⟩, hI⟩, rfl, fun z => absurd z (by decide)⟩
  · rw [b2_withNano hM h]
    exact ⟨⟨⟨_, rfl⟩, hI⟩, rfl, fun z => absurd z (by decide)⟩
  · exact fin_W (g_withNano (th := th) hI hM hR)
theorem rel_withNano {S : SX} {T : SM} {n : Int64} {p0 p1 c9 : Int32} {n9 : Int64} {S9 : SX} (hR : Rel S T) (h9 : H_withNano S n p0 p1 c9 n9 S9) : Rel S9 (gX2_withNano T p0 p1).2 := (act_withNano hR h9).1
theorem cmp_withNano {S : SX} {T : SM} {n : Int64} {p0 p1 c9 : Int32} {n9 : Int64} {S9 : SX} (hR : Rel S T) (h9 : H_withNano S n p0 p1 c9 n9 S9) : fX2_thrown (gX2_withNano T p0 p1).2 = c9 ∧ (c9 = 0 → n9 = ((gX2_withNano T p0 p1).1).toInt64) := (act_withNano hR h9).2
theorem b1_truncate {S : SX} {th p0 p1 : Int32} (h : ¬ (vp_in p0 6)) : gX2_truncate (mkM th S) p0 p1 = ((0 : Int32), mkM 1 S) := by
  unfold gX2_truncate
  rw [none_1 h]
  exact if_neg (frf_l1 _)
theorem b2_truncate {S : SX} {th p0 p1 : Int32} (hM : vp_in p0 6) (h : ¬ ((¬ p1 < (0 : Int32) ∧ p1 ≤ (7 : Int32)))) : gX2_truncate (mkM th S) p0 p1 = ((0 : Int32), mkM 2 S) := by
  unfold gX2_truncate
  rw [none_0 hM, from_0 h]
  exact if_neg (by decide)
theorem g_truncate {S : SX} {th p0 p1 : Int32} (hI : Inv S) (hM : vp_in p0 6) (hR : (¬ p1 < (0 : Int32) ∧ p1 ≤ (7 : Int32))) : GO 0 (gX2_truncate (mkM th S) p0 p1) (gX0_truncate S p0 p1) := by
  have e1 : gX2_truncate (mkM th S) p0 p1 = gX2_become (mkM 0 S) p0 (xy S p0.toNatClampNeg) (xm S p0.toNatClampNeg) (xd S p0.toNatClampNeg) ((xN S p0.toNatClampNeg) - ((xN S p0.toNatClampNeg) - (xN S p0.toNatClampNeg) / fX2_nanosOf p1 * fX2_nanosOf p1)) := by
    unfold gX2_truncate; rw [none_0 hM, from_1 hR.1 hR.2]
    exact (if_pos (by decide)).trans peta
  have e0 : gX0_truncate S p0 p1 = gX0_becomeDate S p0 (xy S p0.toNatClampNeg) (xm S p0.toNatClampNeg) (xd S p0.toNatClampNeg) (fX0_cutNano (xN S p0.toNatClampNeg) p1) := (peta (q := gX0_becomeAs S p0 p0 (fX0_cutNano (xN S p0.toNatClampNeg) p1))).trans peta
  rw [e1, e0]
  obtain ⟨w1, w2⟩ := trunc_eq (u := p1) (hI.N hM) (rg hR (by decide : (0 : Int32).toInt = 0) (by decide : (7 : Int32).toInt = 7))
  rw [w1]
  exact become_eq hI hM (hI.at hM) w2
theorem act_truncate {S : SX} {T : SM} {n : Int64} {p0 p1 c9 : Int32} {n9 : Int64} {S9 : SX} (hR : Rel S T) (h9 : H_truncate S n p0 p1 c9 n9 S9) : Rel S9 (gX2_truncate T p0 p1).2 ∧ (fX2_thrown (gX2_truncate T p0 p1).2 = c9 ∧ (c9 = 0 → n9 = ((gX2_truncate T p0 p1).1).toInt64)) := by
  obtain ⟨⟨th, rfl⟩, hI⟩ := hR
  rcases h9 with ⟨h, e1, e2, e3⟩ | ⟨hM, h, e1, e2, e3⟩ | ⟨hM, hR, e1, e2, e3⟩
  all_goals (have e1 := e1.symm; have e2 := e2.symm; have e3 := e3.symm; subst e1; subst e2; subst e3)
  · rw [b1_truncate h]
    exact ⟨⟨⟨_, rfl⟩, hI⟩, rfl, fun z => absurd z (by decide)⟩
  · rw [b2_truncate hM h]
    exact ⟨⟨⟨_, rfl⟩, hI⟩, rfl, fun z => absurd z (by decide)⟩
  · exact fin_W (g_truncate (th := th) hI hM hR)
theorem rel_truncate {S : SX} {T : SM} {n : Int64} {p0 p1 c9 : Int32} {n9 : Int64} {S9 : SX} (hR : Rel S T) (h9 : H_truncate S n p0 p1 c9 n9 S9) : Rel S9 (gX2_truncate T p0 p1).2 := (act_truncate hR h9).1
theorem cmp_truncate {S : SX} {T : SM} {n : Int64} {p0 p1 c9 : Int32} {n9 : Int64} {S9 : SX} (hR : Rel S T) (h9 : H_truncate S n p0 p1 c9 n9 S9) : fX2_thrown (gX2_truncate T p0 p1).2 = c9 ∧ (c9 = 0 → n9 = ((gX2_truncate T p0 p1).1).toInt64) := (act_truncate hR h9).2
theorem b1_plusYears {S : SX} {th p0 p1 : Int32} (h : ¬ (vp_in p0 6)) : gX2_plusYears (mkM th S) p0 p1 = ((0 : Int32), mkM 1 S) := by
  unfold gX2_plusYears
  rw [none_1 h]
  exact if_neg (frf_l1 _)
theorem b2_plusYears {S : SX} {th p0 p1 : Int32} (hM : vp_in p0 6) (h : ¬ ((¬ p1 < (-100000000 : Int32) ∧ p1 ≤ (100000000 : Int32)))) : gX2_plusYears (mkM th S) p0 p1 = ((0 : Int32), mkM 2 S) := by
  unfold gX2_plusYears
  rw [none_0 hM, from_0 h]
  exact if_neg (by decide)
theorem g_plusYears {S : SX} {th p0 p1 : Int32} (hI : Inv S) (hM : vp_in p0 6) (hR : (¬ p1 < (-100000000 : Int32) ∧ p1 ≤ (100000000 : Int32))) : GO 0 (gX2_plusYears (mkM th S) p0 p1) (gX0_plusYears S p0 p1) := by
  have e1 : gX2_plusYears (mkM th S) p0 p1 = gX2_onMonths (mkM 0 S) p0 ((12 : Int64) * (p1.toInt64)) := by
    unfold gX2_plusYears; rw [none_0 hM, from_1 hR.1 hR.2]
    exact (if_pos (by decide)).trans peta
  have e0 : gX0_plusYears S p0 p1 = gX0_goMonths S p0 ((12 : Int64) * (p1.toInt64)) := peta
  rw [e1, e0]
  have hr := (rg hR (by decide : (-100000000 : Int32).toInt = -100000000) (by decide : (100000000 : Int32).toInt = 100000000))
  have hk := mL (show (12 : Int64).toInt = 12 from by decide) (oL (x := p1) rfl) (by omega)
  exact goMonths_eq hI hM (by rw [hk]; omega)
theorem act_plusYears {S : SX} {T : SM} {n : Int64} {p0 p1 c9 : Int32} {n9 : Int64} {S9 : SX} (hR : Rel S T) (h9 : H_plusYears S n p0 p1 c9 n9 S9) : Rel S9 (gX2_plusYears T p0 p1).2 ∧ (fX2_thrown (gX2_plusYears T p0 p1).2 = c9 ∧ (c9 = 0 → n9 = ((gX2_plusYears T p0 p1).1).toInt64)) := by
  obtain ⟨⟨th, rfl⟩, hI⟩ := hR
  rcases h9 with ⟨h, e1, e2, e3⟩ | ⟨hM, h, e1, e2, e3⟩ | ⟨hM, hR, e1, e2, e3⟩
  all_goals (have e1 := e1.symm; have e2 := e2.symm; have e3 := e3.symm; subst e1; subst e2; subst e3)
  · rw [b1_plusYears h]
    exact ⟨⟨⟨_, rfl⟩, hI⟩, rfl, fun z => absurd z (by decide)⟩
  · rw [b2_plusYears hM h]
    exact ⟨⟨⟨_, rfl⟩, hI⟩, rfl, fun z => absurd z (by decide)⟩
  · exact fin_W (g_plusYears (th := th) hI hM hR)
theorem rel_plusYears {S : SX} {T : SM} {n : Int64} {p0 p1 c9 : Int32} {n9 : Int64} {S9 : SX} (hR : Rel S T) (h9 : H_plusYears S n p0 p1 c9 n9 S9) : Rel S9 (gX2_plusYears T p0 p1).2 := (act_plusYears hR h9).1
theorem cmp_plusYears {S : SX} {T : SM} {n : Int64} {p0 p1 c9 : Int32} {n9 : Int64} {S9 : SX} (hR : Rel S T) (h9 : H_plusYears S n p0 p1 c9 n9 S9) : fX2_thrown (gX2_plusYears T p0 p1).2 = c9 ∧ (c9 = 0 → n9 = ((gX2_plusYears T p0 p1).1).toInt64) := (act_plusYears hR h9).2
theorem b1_minusYears {S : SX} {th p0 p1 : Int32} (h : ¬ (vp_in p0 6)) : gX2_minusYears (mkM th S) p0 p1 = ((0 : Int32), mkM 1 S) := by
  unfold gX2_minusYears
  rw [none_1 h]
  exact if_neg (frf_l1 _)
theorem b2_minusYears {S : SX} {th p0 p1 : Int32} (hM : vp_in p0 6) (h : ¬ ((¬ p1 < (-100000000 : Int32) ∧ p1 ≤ (100000000 : Int32)))) : gX2_minusYears (mkM th S) p0 p1 = ((0 : Int32), mkM 2 S) := by
  unfold gX2_minusYears
  rw [none_0 hM, from_0 h]
  exact if_neg (by decide)
theorem g_minusYears {S : SX} {th p0 p1 : Int32} (hI : Inv S) (hM : vp_in p0 6) (hR : (¬ p1 < (-100000000 : Int32) ∧ p1 ≤ (100000000 : Int32))) : GO 0 (gX2_minusYears (mkM th S) p0 p1) (gX0_minusYears S p0 p1) := by
  have e1 : gX2_minusYears (mkM th S) p0 p1 = gX2_onMonths (mkM 0 S) p0 ((-12 : Int64) * (p1.toInt64)) := by
    unfold gX2_minusYears; rw [none_0 hM, from_1 hR.1 hR.2]
    exact (if_pos (by decide)).trans peta
  have e0 : gX0_minusYears S p0 p1 = gX0_goMonths S p0 ((-12 : Int64) * (p1.toInt64)) := peta
  rw [e1, e0]
  have hr := (rg hR (by decide : (-100000000 : Int32).toInt = -100000000) (by decide : (100000000 : Int32).toInt = 100000000))
  have hk := mL (show (-12 : Int64).toInt = -12 from by decide) (oL (x := p1) rfl) (by omega)
  exact goMonths_eq hI hM (by rw [hk]; omega)
theorem act_minusYears {S : SX} {T : SM} {n : Int64} {p0 p1 c9 : Int32} {n9 : Int64} {S9 : SX} (hR : Rel S T) (h9 : H_minusYears S n p0 p1 c9 n9 S9) : Rel S9 (gX2_minusYears T p0 p1).2 ∧ (fX2_thrown (gX2_minusYears T p0 p1).2 = c9 ∧ (c9 = 0 → n9 = ((gX2_minusYears T p0 p1).1).toInt64)) := by
  obtain ⟨⟨th, rfl⟩, hI⟩ := hR
  rcases h9 with ⟨h, e1, e2, e3⟩ | ⟨hM, h, e1, e2, e3⟩ | ⟨hM, hR, e1, e2, e3⟩
  all_goals (have e1 := e1.symm; have e2 := e2.symm; have e3 := e3.symm; subst e1; subst e2; subst e3)
  · rw [b1_minusYears h]
    exact ⟨⟨⟨_, rfl⟩, hI⟩, rfl, fun z => absurd z (by decide)⟩
  · rw [b2_minusYears hM h]
    exact ⟨⟨⟨_, rfl⟩, hI⟩, rfl, fun z => absurd z (by decide)⟩
  · exact fin_W (g_minusYears (th := th) hI hM hR)
theorem rel_minusYears {S : SX} {T : SM} {n : Int64} {p0 p1 c9 : Int32} {n9 : Int64} {S9 : SX} (hR : Rel S T) (h9 : H_minusYears S n p0 p1 c9 n9 S9) : Rel S9 (gX2_minusYears T p0 p1).2 := (act_minusYears hR h9).1
theorem cmp_minusYears {S : SX} {T : SM} {n : Int64} {p0 p1 c9 : Int32} {n9 : Int64} {S9 : SX} (hR : Rel S T) (h9 : H_minusYears S n p0 p1 c9 n9 S9) : fX2_thrown (gX2_minusYears T p0 p1).2 = c9 ∧ (c9 = 0 → n9 = ((gX2_minusYears T p0 p1).1).toInt64) := (act_minusYears hR h9).2
theorem b1_plusMonths {S : SX} {th p0 p1 : Int32} (h : ¬ (vp_in p0 6)) : gX2_plusMonths (mkM th S) p0 p1 = ((0 : Int32), mkM 1 S) := by
  unfold gX2_plusMonths
  rw [none_1 h]
  exact if_neg (frf_l1 _)
theorem g_plusMonths {S : SX} {th p0 p1 : Int32} (hI : Inv S) (hM : vp_in p0 6) : GO 0 (gX2_plusMonths (mkM th S) p0 p1) (gX0_plusMonths S p0 p1) := by
  have e1 : gX2_plusMonths (mkM th S) p0 p1 = gX2_onMonths (mkM 0 S) p0 (p1.toInt64) := by
    unfold gX2_plusMonths; rw [none_0 hM]
    exact (if_pos (by decide)).trans peta
  have e0 : gX0_plusMonths S p0 p1 = gX0_goMonths S p0 (p1.toInt64) := peta
  rw [e1, e0]
  have hr := fb_rng p1
  have hk := oL (x := p1) rfl
  exact goMonths_eq hI hM (by rw [hk]; omega)
theorem act_plusMonths {S : SX} {T : SM} {n : Int64} {p0 p1 c9 : Int32} {n9 : Int64} {S9 : SX} (hR : Rel S T) (h9 : H_plusMonths S n p0 p1 c9 n9 S9) : Rel S9 (gX2_plusMonths T p0 p1).2 ∧ (fX2_thrown (gX2_plusMonths T p0 p1).2 = c9 ∧ (c9 = 0 → n9 = ((gX2_plusMonths T p0 p1).1).toInt64)) := by
  obtain ⟨⟨th, rfl⟩, hI⟩ := hR
  rcases h9 with ⟨h, e1, e2, e3⟩ | ⟨hM, e1, e2, e3⟩
  all_goals (have e1 := e1.symm; have e2 := e2.symm; have e3 := e3.symm; subst e1; subst e2; subst e3)
  · rw [b1_plusMonths h]
    exact ⟨⟨⟨_, rfl⟩, hI⟩, rfl, fun z => absurd z (by decide)⟩
  · exact fin_W (g_plusMonths (th := th) hI hM)
theorem rel_plusMonths {S : SX} {T : SM} {n : Int64} {p0 p1 c9 : Int32} {n9 : Int64} {S9 : SX} (hR : Rel S T) (h9 : H_plusMonths S n p0 p1 c9 n9 S9) : Rel S9 (gX2_plusMonths T p0 p1).2 := (act_plusMonths hR h9).1
theorem cmp_plusMonths {S : SX} {T : SM} {n : Int64} {p0 p1 c9 : Int32} {n9 : Int64} {S9 : SX} (hR : Rel S T) (h9 : H_plusMonths S n p0 p1 c9 n9 S9) : fX2_thrown (gX2_plusMonths T p0 p1).2 = c9 ∧ (c9 = 0 → n9 = ((gX2_plusMonths T p0 p1).1).toInt64) := (act_plusMonths hR h9).2
theorem b1_minusMonths {S : SX} {th p0 p1 : Int32} (h : ¬ (vp_in p0 6)) : gX2_minusMonths (mkM th S) p0 p1 = ((0 : Int32), mkM 1 S) := by
  unfold gX2_minusMonths
  rw [none_1 h]
  exact if_neg (frf_l1 _)
theorem g_minusMonths {S : SX} {th p0 p1 : Int32} (hI : Inv S) (hM : vp_in p0 6) : GO 0 (gX2_minusMonths (mkM th S) p0 p1) (gX0_minusMonths S p0 p1) := by
  have e1 : gX2_minusMonths (mkM th S) p0 p1 = gX2_onMonths (mkM 0 S) p0 (-(p1.toInt64)) := by
    unfold gX2_minusMonths; rw [none_0 hM]
    exact (if_pos (by decide)).trans peta
  have e0 : gX0_minusMonths S p0 p1 = gX0_goMonths S p0 (-(p1.toInt64)) := peta
  rw [e1, e0]
  have hr := fb_rng p1
  have hk := gL (oL (x := p1) rfl) (by omega)
  exact goMonths_eq hI hM (by rw [hk]; omega)
theorem act_minusMonths {S : SX} {T : SM} {n : Int64} {p0 p1 c9 : Int32} {n9 : Int64} {S9 : SX} (hR : Rel S T) (h9 : H_minusMonths S n p0 p1 c9 n9 S9) : Rel S9 (gX2_minusMonths T p0 p1).2 ∧ (fX2_thrown (gX2_minusMonths T p0 p1).2 = c9 ∧ (c9 = 0 → n9 = ((gX2_minusMonths T p0 p1).1).toInt64)) := by
  obtain ⟨⟨th, rfl⟩, hI⟩ := hR
  rcases h9 with ⟨h, e1, e2, e3⟩ | ⟨hM, e1, e2, e3⟩
  all_goals (have e1 := e1.symm; have e2 := e2.symm; have e3 := e3.symm; subst e1; subst e2; subst e3)
  · rw [b1_minusMonths h]
    exact ⟨⟨⟨_, rfl⟩, hI⟩, rfl, fun z => absurd z (by decide)⟩
  · exact fin_W (g_minusMonths (th := th) hI hM)
theorem rel_minusMonths {S : SX} {T : SM} {n : Int64} {p0 p1 c9 : Int32} {n9 : Int64} {S9 : SX} (hR : Rel S T) (h9 : H_minusMonths S n p0 p1 c9 n9 S9) : Rel S9 (gX2_minusMonths T p0 p1).2 := (act_minusMonths hR h9).1
theorem cmp_minusMonths {S : SX} {T : SM} {n : Int64} {p0 p1 c9 : Int32} {n9 : Int64} {S9 : SX} (hR : Rel S T) (h9 : H_minusMonths S n p0 p1 c9 n9 S9) : fX2_thrown (gX2_minusMonths T p0 p1).2 = c9 ∧ (c9 = 0 → n9 = ((gX2_minusMonths T p0 p1).1).toInt64) := (act_minusMonths hR h9).2
theorem b1_plusWeeks {S : SX} {th p0 p1 : Int32} (h : ¬ (vp_in p0 6)) : gX2_plusWeeks (mkM th S) p0 p1 = ((0 : Int32), mkM 1 S) := by
  unfold gX2_plusWeeks
  rw [none_1 h]
  exact if_neg (frf_l1 _)
theorem g_plusWeeks {S : SX} {th p0 p1 : Int32} (hI : Inv S) (hM : vp_in p0 6) : GO 0 (gX2_plusWeeks (mkM th S) p0 p1) (gX0_plusWeeks S p0 p1) := by
  have e1 : gX2_plusWeeks (mkM th S) p0 p1 = gX2_onLine (mkM 0 S) p0 ((7 : Int64) * (p1.toInt64)) (86400000000000 : Int64) := by
    unfold gX2_plusWeeks; rw [none_0 hM]
    exact (if_pos (by decide)).trans peta
  have e0 : gX0_plusWeeks S p0 p1 = gX0_goUnits S p0 (p1.toInt64) (8 : Int32) := peta
  rw [e1, e0]
  have hr := fb_rng p1
  have h1 := oL (x := p1) rfl
  exact weeks_eq hI hM (mL (show (7 : Int64).toInt = 7 from by decide) h1 (by omega)) h1 (by omega)
theorem act_plusWeeks {S : SX} {T : SM} {n : Int64} {p0 p1 c9 : Int32} {n9 : Int64} {S9 : SX} (hR : Rel S T) (h9 : H_plusWeeks S n p0 p1 c9 n9 S9) : Rel S9 (gX2_plusWeeks T p0 p1).2 ∧ (fX2_thrown (gX2_plusWeeks T p0 p1).2 = c9 ∧ (c9 = 0 → n9 = ((gX2_plusWeeks T p0 p1).1).toInt64)) := by
  obtain ⟨⟨th, rfl⟩, hI⟩ := hR
  rcases h9 with ⟨h, e1, e2, e3⟩ | ⟨hM, e1, e2, e3⟩
  all_goals (have e1 := e1.symm; have e2 := e2.symm; have e3 := e3.symm; subst e1; subst e2; subst e3)
  · rw [b1_plusWeeks h]
    exact ⟨⟨⟨_, rfl⟩, hI⟩, rfl, fun z => absurd z (by decide)⟩
  · exact fin_W (g_plusWeeks (th := th) hI hM)
theorem rel_plusWeeks {S : SX} {T : SM} {n : Int64} {p0 p1 c9 : Int32} {n9 : Int64} {S9 : SX} (hR : Rel S T) (h9 : H_plusWeeks S n p0 p1 c9 n9 S9) : Rel S9 (gX2_plusWeeks T p0 p1).2 := (act_plusWeeks hR h9).1
theorem cmp_plusWeeks {S : SX} {T : SM} {n : Int64} {p0 p1 c9 : Int32} {n9 : Int64} {S9 : SX} (hR : Rel S T) (h9 : H_plusWeeks S n p0 p1 c9 n9 S9) : fX2_thrown (gX2_plusWeeks T p0 p1).2 = c9 ∧ (c9 = 0 → n9 = ((gX2_plusWeeks T p0 p1).1).toInt64) := (act_plusWeeks hR h9).2
theorem b1_minusWeeks {S : SX} {th p0 p1 : Int32} (h : ¬ (vp_in p0 6)) : gX2_minusWeeks (mkM th S) p0 p1 = ((0 : Int32), mkM 1 S) := by
  unfold gX2_minusWeeks
  rw [none_1 h]
  exact if_neg (frf_l1 _)
theorem g_minusWeeks {S : SX} {th p0 p1 : Int32} (hI : Inv S) (hM : vp_in p0 6) : GO 0 (gX2_minusWeeks (mkM th S) p0 p1) (gX0_minusWeeks S p0 p1) := by
  have e1 : gX2_minusWeeks (mkM th S) p0 p1 = gX2_onLine (mkM 0 S) p0 ((-7 : Int64) * (p1.toInt64)) (86400000000000 : Int64) := by
    unfold gX2_minusWeeks; rw [none_0 hM]
    exact (if_pos (by decide)).trans peta
  have e0 : gX0_minusWeeks S p0 p1 = gX0_goUnits S p0 (-(p1.toInt64)) (8 : Int32) := peta
  rw [e1, e0]
  have hr := fb_rng p1
  have h1 := oL (x := p1) rfl
  have h2 := gL h1 (by omega)
  have h3 := mL (show (-7 : Int64).toInt = -7 from by decide) h1 (by omega)
  exact weeks_eq hI hM (h3.trans (by omega)) h2 (by omega)
theorem act_minusWeeks {S : SX} {T : SM} {n : Int64} {p0 p1 c9 : Int32} {n9 : Int64} {S9 : SX} (hR : Rel S T) (h9 : H_minusWeeks S n p0 p1 c9 n9 S9) : Rel S9 (gX2_minusWeeks T p0 p1).2 ∧ (fX2_thrown (gX2_minusWeeks T p0 p1).2 = c9 ∧ (c9 = 0 → n9 = ((gX2_minusWeeks T p0 p1).1).toInt64)) := by
  obtain ⟨⟨th, rfl⟩, hI⟩ := hR
  rcases h9 with ⟨h, e1, e2, e3⟩ | ⟨hM, e1, e2, e3⟩
  all_goals (have e1 := e1.symm; have e2 := e2.symm; have e3 := e3.symm; subst e1; subst e2; subst e3)
  · rw [b1_minusWeeks h]
    exact ⟨⟨⟨_, rfl⟩, hI⟩, rfl, fun z => absurd z (by decide)⟩
  · exact fin_W (g_minusWeeks (th := th) hI hM)
theorem rel_minusWeeks {S : SX} {T : SM} {n : Int64} {p0 p1 c9 : Int32} {n9 : Int64} {S9 : SX} (hR : Rel S T) (h9 : H_minusWeeks S n p0 p1 c9 n9 S9) : Rel S9 (gX2_minusWeeks T p0 p1).2 := (act_minusWeeks hR h9).1
theorem cmp_minusWeeks {S : SX} {T : SM} {n : Int64} {p0 p1 c9 : Int32} {n9 : Int64} {S9 : SX} (hR : Rel S T) (h9 : H_minusWeeks S n p0 p1 c9 n9 S9) : fX2_thrown (gX2_minusWeeks T p0 p1).2 = c9 ∧ (c9 = 0 → n9 = ((gX2_minusWeeks T p0 p1).1).toInt64) := (act_minusWeeks hR h9).2
theorem b1_plusDays {S : SX} {th p0 p1 : Int32} (h : ¬ (vp_in p0 6)) : gX2_plusDays (mkM th S) p0 p1 = ((0 : Int32), mkM 1 S) := by
  unfold gX2_plusDays
  rw [none_1 h]
  exact if_neg (frf_l1 _)
theorem g_plusDays {S : SX} {th p0 p1 : Int32} (hI : Inv S) (hM : vp_in p0 6) : GO 0 (gX2_plusDays (mkM th S) p0 p1) (gX0_plusDays S p0 p1) := by
  have e1 : gX2_plusDays (mkM th S) p0 p1 = gX2_onLine (mkM 0 S) p0 (p1.toInt64) (86400000000000 : Int64) := by
    unfold gX2_plusDays; rw [none_0 hM]
    exact (if_pos (by decide)).trans peta
  have e0 : gX0_plusDays S p0 p1 = gX0_goUnits S p0 (p1.toInt64) (7 : Int32) := peta
  rw [e1, e0]
  have hr := fb_rng p1
  have h1 := oL (x := p1) rfl
  rw [show (86400000000000 : Int64) = fX2_nanosOf (7 : Int32) from by decide +kernel]
  exact goUnits_eq hI hM (by decide) h1 (by omega)
theorem act_plusDays {S : SX} {T : SM} {n : Int64} {p0 p1 c9 : Int32} {n9 : Int64} {S9 : SX} (hR : Rel S T) (h9 : H_plusDays S n p0 p1 c9 n9 S9) : Rel S9 (gX2_plusDays T p0 p1).2 ∧ (fX2_thrown (gX2_plusDays T p0 p1).2 = c9 ∧ (c9 = 0 → n9 = ((gX2_plusDays T p0 p1).1).toInt64)) := by
  obtain ⟨⟨th, rfl⟩, hI⟩ := hR
  rcases h9 with ⟨h, e1, e2, e3⟩ | ⟨hM, e1, e2, e3⟩
  all_goals (have e1 := e1.symm; have e2 := e2.symm; have e3 := e3.symm; subst e1; subst e2; subst e3)
  · rw [b1_plusDays h]
    exact ⟨⟨⟨_, rfl⟩, hI⟩, rfl, fun z => absurd z (by decide)⟩
  · exact fin_W (g_plusDays (th := th) hI hM)
theorem rel_plusDays {S : SX} {T : SM} {n : Int64} {p0 p1 c9 : Int32} {n9 : Int64} {S9 : SX} (hR : Rel S T) (h9 : H_plusDays S n p0 p1 c9 n9 S9) : Rel S9 (gX2_plusDays T p0 p1).2 := (act_plusDays hR h9).1
theorem cmp_plusDays {S : SX} {T : SM} {n : Int64} {p0 p1 c9 : Int32} {n9 : Int64} {S9 : SX} (hR : Rel S T) (h9 : H_plusDays S n p0 p1 c9 n9 S9) : fX2_thrown (gX2_plusDays T p0 p1).2 = c9 ∧ (c9 = 0 → n9 = ((gX2_plusDays T p0 p1).1).toInt64) := (act_plusDays hR h9).2
theorem b1_minusDays {S : SX} {th p0 p1 : Int32} (h : ¬ (vp_in p0 6)) : gX2_minusDays (mkM th S) p0 p1 = ((0 : Int32), mkM 1 S) := by
  unfold gX2_minusDays
  rw [none_1 h]
  exact if_neg (frf_l1 _)
theorem g_minusDays {S : SX} {th p0 p1 : Int32} (hI : Inv S) (hM : vp_in p0 6) : GO 0 (gX2_minusDays (mkM th S) p0 p1) (gX0_minusDays S p0 p1) := by
  have e1 : gX2_minusDays (mkM th S) p0 p1 = gX2_onLine (mkM 0 S) p0 (-(p1.toInt64)) (86400000000000 : Int64) := by
    unfold gX2_minusDays; rw [none_0 hM]
    exact (if_pos (by decide)).trans peta
  have e0 : gX0_minusDays S p0 p1 = gX0_goUnits S p0 (-(p1.toInt64)) (7 : Int32) := peta
  rw [e1, e0]
  have hr := fb_rng p1
  have h1 := gL (oL (x := p1) rfl) (by omega)
  rw [show (86400000000000 : Int64) = fX2_nanosOf (7 : Int32) from by decide +kernel]
  exact goUnits_eq hI hM (by decide) h1 (by omega)
theorem act_minusDays {S : SX} {T : SM} {n : Int64} {p0 p1 c9 : Int32} {n9 : Int64} {S9 : SX} (hR : Rel S T) (h9 : H_minusDays S n p0 p1 c9 n9 S9) : Rel S9 (gX2_minusDays T p0 p1).2 ∧ (fX2_thrown (gX2_minusDays T p0 p1).2 = c9 ∧ (c9 = 0 → n9 = ((gX2_minusDays T p0 p1).1).toInt64)) := by
  obtain ⟨⟨th, rfl⟩, hI⟩ := hR
  rcases h9 with ⟨h, e1, e2, e3⟩ | ⟨hM, e1, e2, e3⟩
  all_goals (have e1 := e1.symm; have e2 := e2.symm; have e3 := e3.symm; subst e1; subst e2; subst e3)
  · rw [b1_minusDays h]
    exact ⟨⟨⟨_, rfl⟩, hI⟩, rfl, fun z => absurd z (by decide)⟩
  · exact fin_W (g_minusDays (th := th) hI hM)
theorem rel_minusDays {S : SX} {T : SM} {n : Int64} {p0 p1 c9 : Int32} {n9 : Int64} {S9 : SX} (hR : Rel S T) (h9 : H_minusDays S n p0 p1 c9 n9 S9) : Rel S9 (gX2_minusDays T p0 p1).2 := (act_minusDays hR h9).1
theorem cmp_minusDays {S : SX} {T : SM} {n : Int64} {p0 p1 c9 : Int32} {n9 : Int64} {S9 : SX} (hR : Rel S T) (h9 : H_minusDays S n p0 p1 c9 n9 S9) : fX2_thrown (gX2_minusDays T p0 p1).2 = c9 ∧ (c9 = 0 → n9 = ((gX2_minusDays T p0 p1).1).toInt64) := (act_minusDays hR h9).2
theorem b1_plusHours {S : SX} {th p0 p1 : Int32} (h : ¬ (vp_in p0 6)) : gX2_plusHours (mkM th S) p0 p1 = ((0 : Int32), mkM 1 S) := by
  unfold gX2_plusHours
  rw [none_1 h]
  exact if_neg (frf_l1 _)
theorem g_plusHours {S : SX} {th p0 p1 : Int32} (hI : Inv S) (hM : vp_in p0 6) : GO 0 (gX2_plusHours (mkM th S) p0 p1) (gX0_plusHours S p0 p1) := by
  have e1 : gX2_plusHours (mkM th S) p0 p1 = gX2_onLine (mkM 0 S) p0 (p1.toInt64) (fX2_nanosOf (5 : Int32)) := by
    unfold gX2_plusHours; rw [none_0 hM]
    exact (if_pos (by decide)).trans peta
  have e0 : gX0_plusHours S p0 p1 = gX0_goUnits S p0 (p1.toInt64) (5 : Int32) := peta
  rw [e1, e0]
  have hr := fb_rng p1
  have h1 := oL (x := p1) rfl
  exact goUnits_eq hI hM (by decide) h1 (by omega)
theorem act_plusHours {S : SX} {T : SM} {n : Int64} {p0 p1 c9 : Int32} {n9 : Int64} {S9 : SX} (hR : Rel S T) (h9 : H_plusHours S n p0 p1 c9 n9 S9) : Rel S9 (gX2_plusHours T p0 p1).2 ∧ (fX2_thrown (gX2_plusHours T p0 p1).2 = c9 ∧ (c9 = 0 → n9 = ((gX2_plusHours T p0 p1).1).toInt64)) := by
  obtain ⟨⟨th, rfl⟩, hI⟩ := hR
  rcases h9 with ⟨h, e1, e2, e3⟩ | ⟨hM, e1, e2, e3⟩
  all_goals (have e1 := e1.symm; have e2 := e2.symm; have e3 := e3.symm; subst e1; subst e2; subst e3)
  · rw [b1_plusHours h]
    exact ⟨⟨⟨_, rfl⟩, hI⟩, rfl, fun z => absurd z (by decide)⟩
  · exact fin_W (g_plusHours (th := th) hI hM)
theorem rel_plusHours {S : SX} {T : SM} {n : Int64} {p0 p1 c9 : Int32} {n9 : Int64} {S9 : SX} (hR : Rel S T) (h9 : H_plusHours S n p0 p1 c9 n9 S9) : Rel S9 (gX2_plusHours T p0 p1).2 := (act_plusHours hR h9).1
theorem cmp_plusHours {S : SX} {T : SM} {n : Int64} {p0 p1 c9 : Int32} {n9 : Int64} {S9 : SX} (hR : Rel S T) (h9 : H_plusHours S n p0 p1 c9 n9 S9) : fX2_thrown (gX2_plusHours T p0 p1).2 = c9 ∧ (c9 = 0 → n9 = ((gX2_plusHours T p0 p1).1).toInt64) := (act_plusHours hR h9).2
theorem b1_minusHours {S : SX} {th p0 p1 : Int32} (h : ¬ (vp_in p0 6)) : gX2_minusHours (mkM th S) p0 p1 = ((0 : Int32), mkM 1 S) := by
  unfold gX2_minusHours
  rw [none_1 h]
  exact if_neg (frf_l1 _)
theorem g_minusHours {S : SX} {th p0 p1 : Int32} (hI : Inv S) (hM : vp_in p0 6) : GO 0 (gX2_minusHours (mkM th S) p0 p1) (gX0_minusHours S p0 p1) := by
  have e1 : gX2_minusHours (mkM th S) p0 p1 = gX2_onLine (mkM 0 S) p0 (-(p1.toInt64)) (fX2_nanosOf (5 : Int32)) := by
    unfold gX2_minusHours; rw [none_0 hM]
    exact (if_pos (by decide)).trans peta
  have e0 : gX0_minusHours S p0 p1 = gX0_goUnits S p0 (-(p1.toInt64)) (5 : Int32) := peta
  rw [e1, e0]
  have hr := fb_rng p1
  have h1 := gL (oL (x := p1) rfl) (by omega)
  exact goUnits_eq hI hM (by decide) h1 (by omega)
theorem act_minusHours {S : SX} {T : SM} {n : Int64} {p0 p1 c9 : Int32} {n9 : Int64} {S9 : SX} (hR : Rel S T) (h9 : H_minusHours S n p0 p1 c9 n9 S9) : Rel S9 (gX2_minusHours T p0 p1).2 ∧ (fX2_thrown (gX2_minusHours T p0 p1).2 = c9 ∧ (c9 = 0 → n9 = ((gX2_minusHours T p0 p1).1).toInt64)) := by
  obtain ⟨⟨th, rfl⟩, hI⟩ := hR
  rcases h9 with ⟨h, e1, e2, e3⟩ | ⟨hM, e1, e2, e3⟩
  all_goals (have e1 := e1.symm; have e2 := e2.symm; have e3 := e3.symm; subst e1; subst e2; subst e3)
  · rw [b1_minusHours h]
    exact ⟨⟨⟨_, rfl⟩, hI⟩, rfl, fun z => absurd z (by decide)⟩
  · exact fin_W (g_minusHours (th := th) hI hM)
theorem rel_minusHours {S : SX} {T : SM} {n : Int64} {p0 p1 c9 : Int32} {n9 : Int64} {S9 : SX} (hR : Rel S T) (h9 : H_minusHours S n p0 p1 c9 n9 S9) : Rel S9 (gX2_minusHours T p0 p1).2 := (act_minusHours hR h9).1
theorem cmp_minusHours {S : SX} {T : SM} {n : Int64} {p0 p1 c9 : Int32} {n9 : Int64} {S9 : SX} (hR : Rel S T) (h9 : H_minusHours S n p0 p1 c9 n9 S9) : fX2_thrown (gX2_minusHours T p0 p1).2 = c9 ∧ (c9 = 0 → n9 = ((gX2_minusHours T p0 p1).1).toInt64) := (act_minusHours hR h9).2
theorem b1_plusMinutes {S : SX} {th p0 p1 : Int32} (h : ¬ (vp_in p0 6)) : gX2_plusMinutes (mkM th S) p0 p1 = ((0 : Int32), mkM 1 S) := by
  unfold gX2_plusMinutes
  rw [none_1 h]
  exact if_neg (frf_l1 _)
theorem g_plusMinutes {S : SX} {th p0 p1 : Int32} (hI : Inv S) (hM : vp_in p0 6) : GO 0 (gX2_plusMinutes (mkM th S) p0 p1) (gX0_plusMinutes S p0 p1) := by
  have e1 : gX2_plusMinutes (mkM th S) p0 p1 = gX2_onLine (mkM 0 S) p0 (p1.toInt64) (fX2_nanosOf (4 : Int32)) := by
    unfold gX2_plusMinutes; rw [none_0 hM]
    exact (if_pos (by decide)).trans peta
  have e0 : gX0_plusMinutes S p0 p1 = gX0_goUnits S p0 (p1.toInt64) (4 : Int32) := peta
  rw [e1, e0]
  have hr := fb_rng p1
  have h1 := oL (x := p1) rfl
  exact goUnits_eq hI hM (by decide) h1 (by omega)
theorem act_plusMinutes {S : SX} {T : SM} {n : Int64} {p0 p1 c9 : Int32} {n9 : Int64} {S9 : SX} (hR : Rel S T) (h9 : H_plusMinutes S n p0 p1 c9 n9 S9) : Rel S9 (gX2_plusMinutes T p0 p1).2 ∧ (fX2_thrown (gX2_plusMinutes T p0 p1).2 = c9 ∧ (c9 = 0 → n9 = ((gX2_plusMinutes T p0 p1).1).toInt64)) := by
  obtain ⟨⟨th, rfl⟩, hI⟩ := hR
  rcases h9 with ⟨h, e1, e2, e3⟩ | ⟨hM, e1, e2, e3⟩
  all_goals (have e1 := e1.symm; have e2 := e2.symm; have e3 := e3.symm; subst e1; subst e2; subst e3)
  · rw [b1_plusMinutes h]
    exact ⟨⟨⟨_, rfl⟩, hI⟩, rfl, fun z => absurd z (by decide)⟩
  · exact fin_W (g_plusMinutes (th := th) hI hM)
theorem rel_plusMinutes {S : SX} {T : SM} {n : Int64} {p0 p1 c9 : Int32} {n9 : Int64} {S9 : SX} (hR : Rel S T) (h9 : H_plusMinutes S n p0 p1 c9 n9 S9) : Rel S9 (gX2_plusMinutes T p0 p1).2 := (act_plusMinutes hR h9).1
theorem cmp_plusMinutes {S : SX} {T : SM} {n : Int64} {p0 p1 c9 : Int32} {n9 : Int64} {S9 : SX} (hR : Rel S T) (h9 : H_plusMinutes S n p0 p1 c9 n9 S9) : fX2_thrown (gX2_plusMinutes T p0 p1).2 = c9 ∧ (c9 = 0 → n9 = ((gX2_plusMinutes T p0 p1).1).toInt64) := (act_plusMinutes hR h9).2
theorem b1_minusMinutes {S : SX} {th p0 p1 : Int32} (h : ¬ (vp_in p0 6)) : gX2_minusMinutes (mkM th S) p0 p1 = ((0 : Int32), mkM 1 S) := by
  unfold gX2_minusMinutes
  rw [none_1 h]
  exact if_neg (frf_l1 _)
theorem g_minusMinutes {S : SX} {th p0 p1 : Int32} (hI : Inv S) (hM : vp_in p0 6) : GO 0 (gX2_minusMinutes (mkM th S) p0 p1) (gX0_minusMinutes S p0 p1) := by
  have e1 : gX2_minusMinutes (mkM th S) p0 p1 = gX2_onLine (mkM 0 S) p0 (-(p1.toInt64)) (fX2_nanosOf (4 : Int32)) := by
    unfold gX2_minusMinutes; rw [none_0 hM]
    exact (if_pos (by decide)).trans peta
  have e0 : gX0_minusMinutes S p0 p1 = gX0_goUnits S p0 (-(p1.toInt64)) (4 : Int32) := peta
  rw [e1, e0]
  have hr := fb_rng p1
  have h1 := gL (oL (x := p1) rfl) (by omega)
  exact goUnits_eq hI hM (by decide) h1 (by omega)
theorem act_minusMinutes {S : SX} {T : SM} {n : Int64} {p0 p1 c9 : Int32} {n9 : Int64} {S9 : SX} (hR : Rel S T) (h9 : H_minusMinutes S n p0 p1 c9 n9 S9) : Rel S9 (gX2_minusMinutes T p0 p1).2 ∧ (fX2_thrown (gX2_minusMinutes T p0 p1).2 = c9 ∧ (c9 = 0 → n9 = ((gX2_minusMinutes T p0 p1).1).toInt64)) := by
  obtain ⟨⟨th, rfl⟩, hI⟩ := hR
  rcases h9 with ⟨h, e1, e2, e3⟩ | ⟨hM, e1, e2, e3⟩
  all_goals (have e1 := e1.symm; have e2 := e2.symm; have e3 := e3.symm; subst e1; subst e2; subst e3)
  · rw [b1_minusMinutes h]
    exact ⟨⟨⟨_, rfl⟩, hI⟩, rfl, fun z => absurd z (by decide)⟩
  · exact fin_W (g_minusMinutes (th := th) hI hM)
theorem rel_minusMinutes {S : SX} {T : SM} {n : Int64} {p0 p1 c9 : Int32} {n9 : Int64} {S9 : SX} (hR : Rel S T) (h9 : H_minusMinutes S n p0 p1 c9 n9 S9) : Rel S9 (gX2_minusMinutes T p0 p1).2 := (act_minusMinutes hR h9).1
theorem cmp_minusMinutes {S : SX} {T : SM} {n : Int64} {p0 p1 c9 : Int32} {n9 : Int64} {S9 : SX} (hR : Rel S T) (h9 : H_minusMinutes S n p0 p1 c9 n9 S9) : fX2_thrown (gX2_minusMinutes T p0 p1).2 = c9 ∧ (c9 = 0 → n9 = ((gX2_minusMinutes T p0 p1).1).toInt64) := (act_minusMinutes hR h9).2
theorem b1_plusSeconds {S : SX} {th p0 p1 : Int32} (h : ¬ (vp_in p0 6)) : gX2_plusSeconds (mkM th S) p0 p1 = ((0 : Int32), mkM 1 S) := by
  unfold gX2_plusSeconds
  rw [none_1 h]
  exact if_neg (frf_l1 _)
theorem g_plusSeconds {S : SX} {th p0 p1 : Int32} (hI : Inv S) (hM : vp_in p0 6) : GO 0 (gX2_plusSeconds (mkM th S) p0 p1) (gX0_plusSeconds S p0 p1) := by
  have e1 : gX2_plusSeconds (mkM th S) p0 p1 = gX2_onLine (mkM 0 S) p0 (p1.toInt64) (1000000000 : Int64) := by
    unfold gX2_plusSeconds; rw [none_0 hM]
    exact (if_pos (by decide)).trans peta
  have e0 : gX0_plusSeconds S p0 p1 = gX0_goUnits S p0 (p1.toInt64) (3 : Int32) := peta
  rw [e1, e0]
  have hr := fb_rng p1
  have h1 := oL (x := p1) rfl
  rw [show (1000000000 : Int64) = fX2_nanosOf (3 : Int32) from by decide +kernel]
  exact goUnits_eq hI hM (by decide) h1 (by omega)
theorem act_plusSeconds {S : SX} {T : SM} {n : Int64} {p0 p1 c9 : Int32} {n9 : Int64} {S9 : SX} (hR : Rel S T) (h9 : H_plusSeconds S n p0 p1 c9 n9 S9) : Rel S9 (gX2_plusSeconds T p0 p1).2 ∧ (fX2_thrown (gX2_plusSeconds T p0 p1).2 = c9 ∧ (c9 = 0 → n9 = ((gX2_plusSeconds T p0 p1).1).toInt64)) := by
  obtain ⟨⟨th, rfl⟩, hI⟩ := hR
  rcases h9 with ⟨h, e1, e2, e3⟩ | ⟨hM, e1, e2, e3⟩
  all_goals (have e1 := e1.symm; have e2 := e2.symm; have e3 := e3.symm; subst e1; subst e2; subst e3)
  · rw [b1_plusSeconds h]
    exact ⟨⟨⟨_, rfl⟩, hI⟩, rfl, fun z => absurd z (by decide)⟩
  · exact fin_W (g_plusSeconds (th := th) hI hM)
theorem rel_plusSeconds {S : SX} {T : SM} {n : Int64} {p0 p1 c9 : Int32} {n9 : Int64} {S9 : SX} (hR : Rel S T) (h9 : H_plusSeconds S n p0 p1 c9 n9 S9) : Rel S9 (gX2_plusSeconds T p0 p1).2 := (act_plusSeconds hR h9).1
theorem cmp_plusSeconds {S : SX} {T : SM} {n : Int64} {p0 p1 c9 : Int32} {n9 : Int64} {S9 : SX} (hR : Rel S T) (h9 : H_plusSeconds S n p0 p1 c9 n9 S9) : fX2_thrown (gX2_plusSeconds T p0 p1).2 = c9 ∧ (c9 = 0 → n9 = ((gX2_plusSeconds T p0 p1).1).toInt64) := (act_plusSeconds hR h9).2
theorem b1_minusSeconds {S : SX} {th p0 p1 : Int32} (h : ¬ (vp_in p0 6)) : gX2_minusSeconds (mkM th S) p0 p1 = ((0 : Int32), mkM 1 S) := by
  unfold gX2_minusSeconds
  rw [none_1 h]
  exact if_neg (frf_l1 _)
theorem g_minusSeconds {S : SX} {th p0 p1 : Int32} (hI : Inv S) (hM : vp_in p0 6) : GO 0 (gX2_minusSeconds (mkM th S) p0 p1) (gX0_minusSeconds S p0 p1) := by
  have e1 : gX2_minusSeconds (mkM th S) p0 p1 = gX2_onLine (mkM 0 S) p0 (-(p1.toInt64)) (1000000000 : Int64) := by
    unfold gX2_minusSeconds; rw [none_0 hM]
    exact (if_pos (by decide)).trans peta
  have e0 : gX0_minusSeconds S p0 p1 = gX0_goUnits S p0 (-(p1.toInt64)) (3 : Int32) := peta
  rw [e1, e0]
  have hr := fb_rng p1
  have h1 := gL (oL (x := p1) rfl) (by omega)
  rw [show (1000000000 : Int64) = fX2_nanosOf (3 : Int32) from by decide +kernel]
  exact goUnits_eq hI hM (by decide) h1 (by omega)
theorem act_minusSeconds {S : SX} {T : SM} {n : Int64} {p0 p1 c9 : Int32} {n9 : Int64} {S9 : SX} (hR : Rel S T) (h9 : H_minusSeconds S n p0 p1 c9 n9 S9) : Rel S9 (gX2_minusSeconds T p0 p1).2 ∧ (fX2_thrown (gX2_minusSeconds T p0 p1).2 = c9 ∧ (c9 = 0 → n9 = ((gX2_minusSeconds T p0 p1).1).toInt64)) := by
  obtain ⟨⟨th, rfl⟩, hI⟩ := hR
  rcases h9 with ⟨h, e1, e2, e3⟩ | ⟨hM, e1, e2, e3⟩
  all_goals (have e1 := e1.symm; have e2 := e2.symm; have e3 := e3.symm; subst e1; subst e2; subst e3)
  · rw [b1_minusSeconds h]
    exact ⟨⟨⟨_, rfl⟩, hI⟩, rfl, fun z => absurd z (by decide)⟩
  · exact fin_W (g_minusSeconds (th := th) hI hM)
theorem rel_minusSeconds {S : SX} {T : SM} {n : Int64} {p0 p1 c9 : Int32} {n9 : Int64} {S9 : SX} (hR : Rel S T) (h9 : H_minusSeconds S n p0 p1 c9 n9 S9) : Rel S9 (gX2_minusSeconds T p0 p1).2 := (act_minusSeconds hR h9).1
theorem cmp_minusSeconds {S : SX} {T : SM} {n : Int64} {p0 p1 c9 : Int32} {n9 : Int64} {S9 : SX} (hR : Rel S T) (h9 : H_minusSeconds S n p0 p1 c9 n9 S9) : fX2_thrown (gX2_minusSeconds T p0 p1).2 = c9 ∧ (c9 = 0 → n9 = ((gX2_minusSeconds T p0 p1).1).toInt64) := (act_minusSeconds hR h9).2
theorem b1_plusNanos {S : SX} {th p0 p1 p2 : Int32} (h : ¬ (vp_in p0 6)) : gX2_plusNanos (mkM th S) p0 p1 p2 = ((0 : Int32), mkM 1 S) := by
  unfold gX2_plusNanos
  rw [none_1 h]
  exact if_neg (frf_l1 _)
theorem g_plusNanos {S : SX} {th p0 p1 p2 : Int32} (hI : Inv S) (hM : vp_in p0 6) : GO 0 (gX2_plusNanos (mkM th S) p0 p1 p2) (gX0_plusNanos S p0 p1 p2) := by
  have e1 : gX2_plusNanos (mkM th S) p0 p1 p2 = gX2_onLine (mkM 0 S) p0 (((p1.toInt64) * (1000000000 : Int64)) + (p2.toInt64)) (1 : Int64) := by
    unfold gX2_plusNanos; rw [none_0 hM]
    exact (if_pos (by decide)).trans peta
  have e0 : gX0_plusNanos S p0 p1 p2 = gX0_goLine S p0 (0 : Int64) (((p1.toInt64) * (1000000000 : Int64)) + (p2.toInt64)) := peta
  rw [e1, e0]
  have hr := fb_rng p1
  have hr2 := fb_rng p2
  have h1 := aL (mL (oL (x := p1) rfl) l1e9 (by omega)) (oL (x := p2) rfl) (by omega)
  exact nano_line hI hM h1 (by omega)
theorem act_plusNanos {S : SX} {T : SM} {n : Int64} {p0 p1 p2 c9 : Int32} {n9 : Int64} {S9 : SX} (hR : Rel S T) (h9 : H_plusNanos S n p0 p1 p2 c9 n9 S9) : Rel S9 (gX2_plusNanos T p0 p1 p2).2 ∧ (fX2_thrown (gX2_plusNanos T p0 p1 p2).2 = c9 ∧ (c9 = 0 → n9 = ((gX2_plusNanos T p0 p1 p2).1).toInt64)) := by
  obtain ⟨⟨th, rfl⟩, hI⟩ := hR
  rcases h9 with ⟨h, e1, e2, e3⟩ | ⟨hM, e1, e2, e3⟩
  all_goals (have e1 := e1.symm; have e2 := e2.symm; have e3 := e3.symm; subst e1; subst e2; subst e3)
  · rw [b1_plusNanos h]
    exact ⟨⟨⟨_, rfl⟩, hI⟩, rfl, fun z => absurd z (by decide)⟩
  · exact fin_W (g_plusNanos (th := th) hI hM)
theorem rel_plusNanos {S : SX} {T : SM} {n : Int64} {p0 p1 p2 c9 : Int32} {n9 : Int64} {S9 : SX} (hR : Rel S T) (h9 : H_plusNanos S n p0 p1 p2 c9 n9 S9) : Rel S9 (gX2_plusNanos T p0 p1 p2).2 := (act_plusNanos hR h9).1
theorem cmp_plusNanos {S : SX} {T : SM} {n : Int64} {p0 p1 p2 c9 : Int32} {n9 : Int64} {S9 : SX} (hR : Rel S T) (h9 : H_plusNanos S n p0 p1 p2 c9 n9 S9) : fX2_thrown (gX2_plusNanos T p0 p1 p2).2 = c9 ∧ (c9 = 0 → n9 = ((gX2_plusNanos T p0 p1 p2).1).toInt64) := (act_plusNanos hR h9).2
theorem b1_minusNanos {S : SX} {th p0 p1 p2 : Int32} (h : ¬ (vp_in p0 6)) : gX2_minusNanos (mkM th S) p0 p1 p2 = ((0 : Int32), mkM 1 S) := by
  unfold gX2_minusNanos
  rw [none_1 h]
  exact if_neg (frf_l1 _)
theorem g_minusNanos {S : SX} {th p0 p1 p2 : Int32} (hI : Inv S) (hM : vp_in p0 6) : GO 0 (gX2_minusNanos (mkM th S) p0 p1 p2) (gX0_minusNanos S p0 p1 p2) := by
  have e1 : gX2_minusNanos (mkM th S) p0 p1 p2 = gX2_onLine (mkM 0 S) p0 (-(((p1.toInt64) * (1000000000 : Int64)) + (p2.toInt64))) (1 : Int64) := by
    unfold gX2_minusNanos; rw [none_0 hM]
    exact (if_pos (by decide)).trans peta
  have e0 : gX0_minusNanos S p0 p1 p2 = gX0_goLine S p0 (0 : Int64) (-(((p1.toInt64) * (1000000000 : Int64)) + (p2.toInt64))) := peta
  rw [e1, e0]
  have hr := fb_rng p1
  have hr2 := fb_rng p2
  have h1 := aL (mL (oL (x := p1) rfl) l1e9 (by omega)) (oL (x := p2) rfl) (by omega)
  exact nano_line hI hM (gL h1 (by omega)) (by omega)
theorem act_minusNanos {S : SX} {T : SM} {n : Int64} {p0 p1 p2 c9 : Int32} {n9 : Int64} {S9 : SX} (hR : Rel S T) (h9 : H_minusNanos S n p0 p1 p2 c9 n9 S9) : Rel S9 (gX2_minusNanos T p0 p1 p2).2 ∧ (fX2_thrown (gX2_minusNanos T p0 p1 p2).2 = c9 ∧ (c9 = 0 → n9 = ((gX2_minusNanos T p0 p1 p2).1).toInt64)) := by
  obtain ⟨⟨th, rfl⟩, hI⟩ := hR
  rcases h9 with ⟨h, e1, e2, e3⟩ | ⟨hM, e1, e2, e3⟩
  all_goals (have e1 := e1.symm; have e2 := e2.symm; have e3 := e3.symm; subst e1; subst e2; subst e3)
  · rw [b1_minusNanos h]
    exact ⟨⟨⟨_, rfl⟩, hI⟩, rfl, fun z => absurd z (by decide)⟩
  · exact fin_W (g_minusNanos (th := th) hI hM)
theorem rel_minusNanos {S : SX} {T : SM} {n : Int64} {p0 p1 p2 c9 : Int32} {n9 : Int64} {S9 : SX} (hR : Rel S T) (h9 : H_minusNanos S n p0 p1 p2 c9 n9 S9) : Rel S9 (gX2_minusNanos T p0 p1 p2).2 := (act_minusNanos hR h9).1
theorem cmp_minusNanos {S : SX} {T : SM} {n : Int64} {p0 p1 p2 c9 : Int32} {n9 : Int64} {S9 : SX} (hR : Rel S T) (h9 : H_minusNanos S n p0 p1 p2 c9 n9 S9) : fX2_thrown (gX2_minusNanos T p0 p1 p2).2 = c9 ∧ (c9 = 0 → n9 = ((gX2_minusNanos T p0 p1 p2).1).toInt64) := (act_minusNanos hR h9).2
theorem b1_plusUnits {S : SX} {th p0 p1 p2 : Int32} (h : ¬ (vp_in p0 6)) : gX2_plusUnits (mkM th S) p0 p1 p2 = ((0 : Int32), mkM 1 S) := by
  unfold gX2_plusUnits
  rw [none_1 h]
  repeat (first | exact if_neg (frf_l1 _) | (refine ite_both ?_ ?_; rfl))
theorem b2_plusUnits {S : SX} {th p0 p1 p2 : Int32} (hM : vp_in p0 6) (h : ¬ ((¬ p1 < (-100000 : Int32) ∧ p1 ≤ (100000 : Int32)) ∧ (¬ p2 < (0 : Int32) ∧ p2 ≤ (13 : Int32)))) : gX2_plusUnits (mkM th S) p0 p1 p2 = ((0 : Int32), mkM 2 S) := by
  unfold gX2_plusUnits
  rw [none_0 hM]
  by_cases c0 : (¬ p1 < (-100000 : Int32) ∧ p1 ≤ (100000 : Int32))
  case neg => rw [from_0 c0]; exact if_pos rfl
  rw [from_1 c0.1 c0.2]
  refine (if_neg (by decide)).trans ?_
  rw [from_0 (fun z => h ⟨c0, z⟩)]
  exact if_neg (by decide)
theorem g_plusUnits {S : SX} {th p0 p1 p2 : Int32} (hI : Inv S) (hM : vp_in p0 6) (hR : (¬ p1 < (-100000 : Int32) ∧ p1 ≤ (100000 : Int32)) ∧ (¬ p2 < (0 : Int32) ∧ p2 ≤ (13 : Int32))) : GO 0 (gX2_plusUnits (mkM th S) p0 p1 p2) (gX0_plusUnits S p0 p1 p2) := by
  have r1 := (rg hR.1 (by decide : (-100000 : Int32).toInt = -100000) (by decide : (100000 : Int32).toInt = 100000))
  have r2 := (rg hR.2 (by decide : (0 : Int32).toInt = 0) (by decide : (13 : Int32).toInt = 13))
  have h1 := oL (x := p1) rfl
  unfold gX2_plusUnits; rw [none_0 hM, from_1 hR.1.1 hR.1.2, from_1 hR.2.1 hR.2.2]
  refine GO.of ((if_neg (by decide)).trans (if_pos (by decide))) ?_
  by_cases c : p2.toInt ≤ 8
  · have c8 : p2 ≤ (8 : Int32) := Int32.le_iff_toInt_le.mpr (by rw [show (8 : Int32).toInt = 8 from by decide]; exact c)
    have c9 : ¬ (9 : Int32) ≤ p2 := fun z => by have := Int32.le_iff_toInt_le.mp z; rw [show (9 : Int32).toInt = 9 from by decide] at this; omega
    have e0 : gX0_plusUnits S p0 p1 p2 = gX0_goUnits S p0 (p1.toInt64) p2 := (if_neg c9).trans peta
    rw [e0]
    refine GO.of (if_pos c8) ?_
    by_cases e8 : p2 = 8
    · refine GO.of ((if_pos e8).trans peta) ?_
      subst e8
      exact weeks_eq (th := 0) hI hM (mL (show (7 : Int64).toInt = 7 from by decide) h1 (by omega)) h1 (by omega)
    · refine GO.of ((if_neg e8).trans peta) ?_
      have : ¬ p2.toInt = 8 := fun z => e8 (eqI z (by decide))
      exact goUnits_eq (th := 0) hI hM (by omega) h1 (by omega)
  · have c8 : ¬ p2 ≤ (8 : Int32) := fun z => c (by have := Int32.le_iff_toInt_le.mp z; rw [show (8 : Int32).toInt = 8 from by decide] at this; exact this)
    have c9 : (9 : Int32) ≤ p2 := Int32.le_iff_toInt_le.mpr (by rw [show (9 : Int32).toInt = 9 from by decide]; omega)
    have e0 : gX0_plusUnits S p0 p1 p2 = gX0_goMonths S p0 ((p1.toInt64) * (fX0_monthsOfUnit p2)) := (if_pos c9).trans peta
    rw [e0]
    refine GO.of ((if_neg c8).trans peta) ?_
    obtain ⟨z, z1, z2, z3⟩ := mu_int (u := p2) (by omega)
    rw [z2]
    have z4 := mL h1 z1 (mu_b r1 z3)
    exact goMonths_eq (th := 0) hI hM (by rw [z4]; exact mu_c r1 z3)
theorem act_plusUnits {S : SX} {T : SM} {n : Int64} {p0 p1 p2 c9 : Int32} {n9 : Int64} {S9 : SX} (hR : Rel S T) (h9 : H_plusUnits S n p0 p1 p2 c9 n9 S9) : Rel S9 (gX2_plusUnits T p0 p1 p2).2 ∧ (fX2_thrown (gX2_plusUnits T p0 p1 p2).2 = c9 ∧ (c9 = 0 → n9 = ((gX2_plusUnits T p0 p1 p2).1).toInt64)) := by
  obtain ⟨⟨th, rfl⟩, hI⟩ := hR
  rcases h9 with ⟨h, e1, e2, e3⟩ | ⟨hM, h, e1, e2, e3⟩ | ⟨hM, hR, e1, e2, e3⟩
  all_goals (have e1 := e1.symm; have e2 := e2.symm; have e3 := e3.symm; subst e1; subst e2; subst e3)
  · rw [b1_plusUnits h]
    exact ⟨⟨⟨_, rfl⟩, hI⟩, rfl, fun z => absurd z (by decide)⟩
  · rw [b2_plusUnits hM h]
    exact ⟨⟨⟨_, rfl⟩, hI⟩, rfl, fun z => absurd z (by decide)⟩
  · exact fin_W (g_plusUnits (th := th) hI hM hR)
theorem rel_plusUnits {S : SX} {T : SM} {n : Int64} {p0 p1 p2 c9 : Int32} {n9 : Int64} {S9 : SX} (hR : Rel S T) (h9 : H_plusUnits S n p0 p1 p2 c9 n9 S9) : Rel S9 (gX2_plusUnits T p0 p1 p2).2 := (act_plusUnits hR h9).1
theorem cmp_plusUnits {S : SX} {T : SM} {n : Int64} {p0 p1 p2 c9 : Int32} {n9 : Int64} {S9 : SX} (hR : Rel S T) (h9 : H_plusUnits S n p0 p1 p2 c9 n9 S9) : fX2_thrown (gX2_plusUnits T p0 p1 p2).2 = c9 ∧ (c9 = 0 → n9 = ((gX2_plusUnits T p0 p1 p2).1).toInt64) := (act_plusUnits hR h9).2
theorem b1_year {S : SX} {th p0 : Int32} (h : ¬ (vp_in p0 6)) : gX2_year (mkM th S) p0 = ((0 : Int32), mkM 1 S) := by
  unfold gX2_year
  rw [none_1 h]
  exact if_neg (frf_l1 _)
theorem g_year {S : SX} {th p0 : Int32} (hI : Inv S) (hM : vp_in p0 6) : gX2_year (mkM th S) p0 = (fX0_year S p0, mkM 0 S) := by
  unfold gX2_year; rw [none_0 hM]
  refine (if_pos (by decide)).trans ?_
  rfl
theorem act_year {S : SX} {T : SM} {n : Int64} {p0 c9 : Int32} {n9 : Int64} {S9 : SX} (hR : Rel S T) (h9 : H_year S n p0 c9 n9 S9) : Rel S9 (gX2_year T p0).2 ∧ (fX2_thrown (gX2_year T p0).2 = c9 ∧ (c9 = 0 → n9 = ((gX2_year T p0).1).toInt64)) := by
  obtain ⟨⟨th, rfl⟩, hI⟩ := hR
  rcases h9 with ⟨h, e1, e2, e3⟩ | ⟨hM, e1, e2, e3⟩
  all_goals (have e1 := e1.symm; have e2 := e2.symm; have e3 := e3.symm; subst e1; subst e2; subst e3)
  · rw [b1_year h]
    exact ⟨⟨⟨_, rfl⟩, hI⟩, rfl, fun z => absurd z (by decide)⟩
  · rw [g_year (th := th) hI hM]
    exact ⟨⟨⟨0, rfl⟩, hI⟩, rfl, fun _ => rfl⟩
theorem rel_year {S : SX} {T : SM} {n : Int64} {p0 c9 : Int32} {n9 : Int64} {S9 : SX} (hR : Rel S T) (h9 : H_year S n p0 c9 n9 S9) : Rel S9 (gX2_year T p0).2 := (act_year hR h9).1
theorem cmp_year {S : SX} {T : SM} {n : Int64} {p0 c9 : Int32} {n9 : Int64} {S9 : SX} (hR : Rel S T) (h9 : H_year S n p0 c9 n9 S9) : fX2_thrown (gX2_year T p0).2 = c9 ∧ (c9 = 0 → n9 = ((gX2_year T p0).1).toInt64) := (act_year hR h9).2
theorem b1_month {S : SX} {th p0 : Int32} (h : ¬ (vp_in p0 6)) : gX2_month (mkM th S) p0 = ((0 : Int32), mkM 1 S) := by
  unfold gX2_month
  rw [none_1 h]
  exact if_neg (frf_l1 _)
theorem g_month {S : SX} {th p0 : Int32} (hI : Inv S) (hM : vp_in p0 6) : gX2_month (mkM th S) p0 = (fX0_month S p0, mkM 0 S) := by
  unfold gX2_month; rw [none_0 hM]
  refine (if_pos (by decide)).trans ?_
  rfl
theorem act_month {S : SX} {T : SM} {n : Int64} {p0 c9 : Int32} {n9 : Int64} {S9 : SX} (hR : Rel S T) (h9 : H_month S n p0 c9 n9 S9) : Rel S9 (gX2_month T p0).2 ∧ (fX2_thrown (gX2_month T p0).2 = c9 ∧ (c9 = 0 → n9 = ((gX2_month T p0).1).toInt64)) := by
  obtain ⟨⟨th, rfl⟩, hI⟩ := hR
  rcases h9 with ⟨h, e1, e2, e3⟩ | ⟨hM, e1, e2, e3⟩
  all_goals (have e1 := e1.symm; have e2 := e2.symm; have e3 := e3.symm; subst e1; subst e2; subst e3)
  · rw [b1_month h]
    exact ⟨⟨⟨_, rfl⟩, hI⟩, rfl, fun z => absurd z (by decide)⟩
  · rw [g_month (th := th) hI hM]
    exact ⟨⟨⟨0, rfl⟩, hI⟩, rfl, fun _ => rfl⟩
theorem rel_month {S : SX} {T : SM} {n : Int64} {p0 c9 : Int32} {n9 : Int64} {S9 : SX} (hR : Rel S T) (h9 : H_month S n p0 c9 n9 S9) : Rel S9 (gX2_month T p0).2 := (act_month hR h9).1
theorem cmp_month {S : SX} {T : SM} {n : Int64} {p0 c9 : Int32} {n9 : Int64} {S9 : SX} (hR : Rel S T) (h9 : H_month S n p0 c9 n9 S9) : fX2_thrown (gX2_month T p0).2 = c9 ∧ (c9 = 0 → n9 = ((gX2_month T p0).1).toInt64) := (act_month hR h9).2
theorem b1_dayOfMonth {S : SX} {th p0 : Int32} (h : ¬ (vp_in p0 6)) : gX2_dayOfMonth (mkM th S) p0 = ((0 : Int32), mkM 1 S) := by
  unfold gX2_dayOfMonth
  rw [none_1 h]
  exact if_neg (frf_l1 _)
theorem g_dayOfMonth {S : SX} {th p0 : Int32} (hI : Inv S) (hM : vp_in p0 6) : gX2_dayOfMonth (mkM th S) p0 = (fX0_dayOfMonth S p0, mkM 0 S) := by
  unfold gX2_dayOfMonth; rw [none_0 hM]
  refine (if_pos (by decide)).trans ?_
  rfl
theorem act_dayOfMonth {S : SX} {T : SM} {n : Int64} {p0 c9 : Int32} {n9 : Int64} {S9 : SX} (hR : Rel S T) (h9 : H_dayOfMonth S n p0 c9 n9 S9) : Rel S9 (gX2_dayOfMonth T p0).2 ∧ (fX2_thrown (gX2_dayOfMonth T p0).2 = c9 ∧ (c9 = 0 → n9 = ((gX2_dayOfMonth T p0).1).toInt64)) := by
  obtain ⟨⟨th, rfl⟩, hI⟩ := hR
  rcases h9 with ⟨h, e1, e2, e3⟩ | ⟨hM, e1, e2, e3⟩
  all_goals (have e1 := e1.symm; have e2 := e2.symm; have e3 := e3.symm; subst e1; subst e2; subst e3)
  · rw [b1_dayOfMonth h]
    exact ⟨⟨⟨_, rfl⟩, hI⟩, rfl, fun z => absurd z (by decide)⟩
  · rw [g_dayOfMonth (th := th) hI hM]
    exact ⟨⟨⟨0, rfl⟩, hI⟩, rfl, fun _ => rfl⟩
theorem rel_dayOfMonth {S : SX} {T : SM} {n : Int64} {p0 c9 : Int32} {n9 : Int64} {S9 : SX} (hR : Rel S T) (h9 : H_dayOfMonth S n p0 c9 n9 S9) : Rel S9 (gX2_dayOfMonth T p0).2 := (act_dayOfMonth hR h9).1
theorem cmp_dayOfMonth {S : SX} {T : SM} {n : Int64} {p0 c9 : Int32} {n9 : Int64} {S9 : SX} (hR : Rel S T) (h9 : H_dayOfMonth S n p0 c9 n9 S9) : fX2_thrown (gX2_dayOfMonth T p0).2 = c9 ∧ (c9 = 0 → n9 = ((gX2_dayOfMonth T p0).1).toInt64) := (act_dayOfMonth hR h9).2
theorem b1_dayOfYear {S : SX} {th p0 : Int32} (h : ¬ (vp_in p0 6)) : gX2_dayOfYear (mkM th S) p0 = ((0 : Int32), mkM 1 S) := by
  unfold gX2_dayOfYear
  rw [none_1 h]
  exact if_neg (frf_l1 _)
theorem g_dayOfYear {S : SX} {th p0 : Int32} (hI : Inv S) (hM : vp_in p0 6) : gX2_dayOfYear (mkM th S) p0 = (fX0_dayOfYear S p0, mkM 0 S) := by
  unfold gX2_dayOfYear; rw [none_0 hM]
  refine (if_pos (by decide)).trans ?_
  exact congrArg (fun z => (z, mkM 0 S)) (in_eq (hI.at hM).2.1)
theorem act_dayOfYear {S : SX} {T : SM} {n : Int64} {p0 c9 : Int32} {n9 : Int64} {S9 : SX} (hR : Rel S T) (h9 : H_dayOfYear S n p0 c9 n9 S9) : Rel S9 (gX2_dayOfYear T p0).2 ∧ (fX2_thrown (gX2_dayOfYear T p0).2 = c9 ∧ (c9 = 0 → n9 = ((gX2_dayOfYear T p0).1).toInt64)) := by
  obtain ⟨⟨th, rfl⟩, hI⟩ := hR
  rcases h9 with ⟨h, e1, e2, e3⟩ | ⟨hM, e1, e2, e3⟩
  all_goals (have e1 := e1.symm; have e2 := e2.symm; have e3 := e3.symm; subst e1; subst e2; subst e3)
  · rw [b1_dayOfYear h]
    exact ⟨⟨⟨_, rfl⟩, hI⟩, rfl, fun z => absurd z (by decide)⟩
  · rw [g_dayOfYear (th := th) hI hM]
    exact ⟨⟨⟨0, rfl⟩, hI⟩, rfl, fun _ => rfl⟩
theorem rel_dayOfYear {S : SX} {T : SM} {n : Int64} {p0 c9 : Int32} {n9 : Int64} {S9 : SX} (hR : Rel S T) (h9 : H_dayOfYear S n p0 c9 n9 S9) : Rel S9 (gX2_dayOfYear T p0).2 := (act_dayOfYear hR h9).1
theorem cmp_dayOfYear {S : SX} {T : SM} {n : Int64} {p0 c9 : Int32} {n9 : Int64} {S9 : SX} (hR : Rel S T) (h9 : H_dayOfYear S n p0 c9 n9 S9) : fX2_thrown (gX2_dayOfYear T p0).2 = c9 ∧ (c9 = 0 → n9 = ((gX2_dayOfYear T p0).1).toInt64) := (act_dayOfYear hR h9).2
theorem b1_dayOfWeek {S : SX} {th p0 : Int32} (h : ¬ (vp_in p0 6)) : gX2_dayOfWeek (mkM th S) p0 = ((0 : Int32), mkM 1 S) := by
  unfold gX2_dayOfWeek
  rw [none_1 h]
  exact if_neg (frf_l1 _)
theorem g_dayOfWeek {S : SX} {th p0 : Int32} (hI : Inv S) (hM : vp_in p0 6) : gX2_dayOfWeek (mkM th S) p0 = (fX0_dayOfWeek S p0, mkM 0 S) := by
  unfold gX2_dayOfWeek; rw [none_0 hM]
  refine (if_pos (by decide)).trans ?_
  exact congrArg (fun z => (z, mkM 0 S)) (wkn_eq hI hM)
theorem act_dayOfWeek {S : SX} {T : SM} {n : Int64} {p0 c9 : Int32} {n9 : Int64} {S9 : SX} (hR : Rel S T) (h9 : H_dayOfWeek S n p0 c9 n9 S9) : Rel S9 (gX2_dayOfWeek T p0).2 ∧ (fX2_thrown (gX2_dayOfWeek T p0).2 = c9 ∧ (c9 = 0 → n9 = ((gX2_dayOfWeek T p0).1).toInt64)) := by
  obtain ⟨⟨th, rfl⟩, hI⟩ := hR
  rcases h9 with ⟨h, e1, e2, e3⟩ | ⟨hM, e1, e2, e3⟩
  all_goals (have e1 := e1.symm; have e2 := e2.symm; have e3 := e3.symm; subst e1; subst e2; subst e3)
  · rw [b1_dayOfWeek h]
    exact ⟨⟨⟨_, rfl⟩, hI⟩, rfl, fun z => absurd z (by decide)⟩
  · rw [g_dayOfWeek (th := th) hI hM]
    exact ⟨⟨⟨0, rfl⟩, hI⟩, rfl, fun _ => rfl⟩
theorem rel_dayOfWeek {S : SX} {T : SM} {n : Int64} {p0 c9 : Int32} {n9 : Int64} {S9 : SX} (hR : Rel S T) (h9 : H_dayOfWeek S n p0 c9 n9 S9) : Rel S9 (gX2_dayOfWeek T p0).2 := (act_dayOfWeek hR h9).1
theorem cmp_dayOfWeek {S : SX} {T : SM} {n : Int64} {p0 c9 : Int32} {n9 : Int64} {S9 : SX} (hR : Rel S T) (h9 : H_dayOfWeek S n p0 c9 n9 S9) : fX2_thrown (gX2_dayOfWeek T p0).2 = c9 ∧ (c9 = 0 → n9 = ((gX2_dayOfWeek T p0).1).toInt64) := (act_dayOfWeek hR h9).2
theorem b1_hour {S : SX} {th p0 : Int32} (h : ¬ (vp_in p0 6)) : gX2_hour (mkM th S) p0 = ((0 : Int32), mkM 1 S) := by
  unfold gX2_hour
  rw [none_1 h]
  exact if_neg (frf_l1 _)
theorem g_hour {S : SX} {th p0 : Int32} (hI : Inv S) (hM : vp_in p0 6) : gX2_hour (mkM th S) p0 = (fX0_hour S p0, mkM 0 S) := by
  unfold gX2_hour; rw [none_0 hM]
  refine (if_pos (by decide)).trans ?_
  exact congrArg (fun z => (z, mkM 0 S)) (hour_eq (hI.N hM))
theorem act_hour {S : SX} {T : SM} {n : Int64} {p0 c9 : Int32} {n9 : Int64} {S9 : SX} (hR : Rel S T) (h9 : H_hour S n p0 c9 n9 S9) : Rel S9 (gX2_hour T p0).2 ∧ (fX2_thrown (gX2_hour T p0).2 = c9 ∧ (c9 = 0 → n9 = ((gX2_hour T p0).1).toInt64)) := by
  obtain ⟨⟨th, rfl⟩, hI⟩ := hR
  rcases h9 with ⟨h, e1, e2, e3⟩ | ⟨hM, e1, e2, e3⟩
  all_goals (have e1 := e1.symm; have e2 := e2.symm; have e3 := e3.symm; subst e1; subst e2; subst e3)
  · rw [b1_hour h]
    exact ⟨⟨⟨_, rfl⟩, hI⟩, rfl, fun z => absurd z (by decide)⟩
  · rw [g_hour (th := th) hI hM]
    exact ⟨⟨⟨0, rfl⟩, hI⟩, rfl, fun _ => rfl⟩
theorem rel_hour {S : SX} {T : SM} {n : Int64} {p0 c9 : Int32} {n9 : Int64} {S9 : SX} (hR : Rel S T) (h9 : H_hour S n p0 c9 n9 S9) : Rel S9 (gX2_hour T p0).2 := (act_hour hR h9).1
theorem cmp_hour {S : SX} {T : SM} {n : Int64} {p0 c9 : Int32} {n9 : Int64} {S9 : SX} (hR : Rel S T) (h9 : H_hour S n p0 c9 n9 S9) : fX2_thrown (gX2_hour T p0).2 = c9 ∧ (c9 = 0 → n9 = ((gX2_hour T p0).1).toInt64) := (act_hour hR h9).2
theorem b1_minute {S : SX} {th p0 : Int32} (h : ¬ (vp_in p0 6)) : gX2_minute (mkM th S) p0 = ((0 : Int32), mkM 1 S) := by
  unfold gX2_minute
  rw [none_1 h]
  exact if_neg (frf_l1 _)
theorem g_minute {S : SX} {th p0 : Int32} (hI : Inv S) (hM : vp_in p0 6) : gX2_minute (mkM th S) p0 = (fX0_minute S p0, mkM 0 S) := by
  unfold gX2_minute; rw [none_0 hM]
  refine (if_pos (by decide)).trans ?_
  exact congrArg (fun z => (z, mkM 0 S)) (minute_eq (hI.N hM))
theorem act_minute {S : SX} {T : SM} {n : Int64} {p0 c9 : Int32} {n9 : Int64} {S9 : SX} (hR : Rel S T) (h9 : H_minute S n p0 c9 n9 S9) : Rel S9 (gX2_minute T p0).2 ∧ (fX2_thrown (gX2_minute T p0).2 = c9 ∧ (c9 = 0 → n9 = ((gX2_minute T p0).1).toInt64)) := by
  obtain ⟨⟨th, rfl⟩, hI⟩ := hR
  rcases h9 with ⟨h, e1, e2, e3⟩ | ⟨hM, e1, e2, e3⟩
  all_goals (have e1 := e1.symm; have e2 := e2.symm; have e3 := e3.symm; subst e1; subst e2; subst e3)
  · rw [b1_minute h]
    exact ⟨⟨⟨_, rfl⟩, hI⟩, rfl, fun z => absurd z (by decide)⟩
  · rw [g_minute (th := th) hI hM]
    exact ⟨⟨⟨0, rfl⟩, hI⟩, rfl, fun _ => rfl⟩
theorem rel_minute {S : SX} {T : SM} {n : Int64} {p0 c9 : Int32} {n9 : Int64} {S9 : SX} (hR : Rel S T) (h9 : H_minute S n p0 c9 n9 S9) : Rel S9 (gX2_minute T p0).2 := (act_minute hR h9).1
theorem cmp_minute {S : SX} {T : SM} {n : Int64} {p0 c9 : Int32} {n9 : Int64} {S9 : SX} (hR : Rel S T) (h9 : H_minute S n p0 c9 n9 S9) : fX2_thrown (gX2_minute T p0).2 = c9 ∧ (c9 = 0 → n9 = ((gX2_minute T p0).1).toInt64) := (act_minute hR h9).2
theorem b1_second {S : SX} {th p0 : Int32} (h : ¬ (vp_in p0 6)) : gX2_second (mkM th S) p0 = ((0 : Int32), mkM 1 S) := by
  unfold gX2_second
  rw [none_1 h]
  exact if_neg (frf_l1 _)
theorem g_second {S : SX} {th p0 : Int32} (hI : Inv S) (hM : vp_in p0 6) : gX2_second (mkM th S) p0 = (fX0_second S p0, mkM 0 S) := by
  unfold gX2_second; rw [none_0 hM]
  refine (if_pos (by decide)).trans ?_
  exact congrArg (fun z => (z, mkM 0 S)) (second_eq (hI.N hM))
theorem act_second {S : SX} {T : SM} {n : Int64} {p0 c9 : Int32} {n9 : Int64} {S9 : SX} (hR : Rel S T) (h9 : H_second S n p0 c9 n9 S9) : Rel S9 (gX2_second T p0).2 ∧ (fX2_thrown (gX2_second T p0).2 = c9 ∧ (c9 = 0 → n9 = ((gX2_second T p0).1).toInt64)) := by
  obtain ⟨⟨th, rfl⟩, hI⟩ := hR
  rcases h9 with ⟨h, e1, e2, e3⟩ | ⟨hM, e1, e2, e3⟩
  all_goals (have e1 := e1.symm; have e2 := e2.symm; have e3 := e3.symm; subst e1; subst e2; subst e3)
  · rw [b1_second h]
    exact ⟨⟨⟨_, rfl⟩, hI⟩, rfl, fun z => absurd z (by decide)⟩
  · rw [g_second (th := th) hI hM]
    exact ⟨⟨⟨0, rfl⟩, hI⟩, rfl, fun _ => rfl⟩
theorem rel_second {S : SX} {T : SM} {n : Int64} {p0 c9 : Int32} {n9 : Int64} {S9 : SX} (hR : Rel S T) (h9 : H_second S n p0 c9 n9 S9) : Rel S9 (gX2_second T p0).2 := (act_second hR h9).1
theorem cmp_second {S : SX} {T : SM} {n : Int64} {p0 c9 : Int32} {n9 : Int64} {S9 : SX} (hR : Rel S T) (h9 : H_second S n p0 c9 n9 S9) : fX2_thrown (gX2_second T p0).2 = c9 ∧ (c9 = 0 → n9 = ((gX2_second T p0).1).toInt64) := (act_second hR h9).2
theorem b1_nano {S : SX} {th p0 : Int32} (h : ¬ (vp_in p0 6)) : gX2_nano (mkM th S) p0 = ((0 : Int32), mkM 1 S) := by
  unfold gX2_nano
  rw [none_1 h]
  exact if_neg (frf_l1 _)
theorem g_nano {S : SX} {th p0 : Int32} (hI : Inv S) (hM : vp_in p0 6) : gX2_nano (mkM th S) p0 = (fX0_nano S p0, mkM 0 S) := by
  unfold gX2_nano; rw [none_0 hM]
  refine (if_pos (by decide)).trans ?_
  exact congrArg (fun z => (z, mkM 0 S)) (nano_eq (hI.N hM))
theorem act_nano {S : SX} {T : SM} {n : Int64} {p0 c9 : Int32} {n9 : Int64} {S9 : SX} (hR : Rel S T) (h9 : H_nano S n p0 c9 n9 S9) : Rel S9 (gX2_nano T p0).2 ∧ (fX2_thrown (gX2_nano T p0).2 = c9 ∧ (c9 = 0 → n9 = ((gX2_nano T p0).1).toInt64)) := by
  obtain ⟨⟨th, rfl⟩, hI⟩ := hR
  rcases h9 with ⟨h, e1, e2, e3⟩ | ⟨hM, e1, e2, e3⟩
  all_goals (have e1 := e1.symm; have e2 := e2.symm; have e3 := e3.symm; subst e1; subst e2; subst e3)
  · rw [b1_nano h]
    exact ⟨⟨⟨_, rfl⟩, hI⟩, rfl, fun z => absurd z (by decide)⟩
  · rw [g_nano (th := th) hI hM]
    exact ⟨⟨⟨0, rfl⟩, hI⟩, rfl, fun _ => rfl⟩
theorem rel_nano {S : SX} {T : SM} {n : Int64} {p0 c9 : Int32} {n9 : Int64} {S9 : SX} (hR : Rel S T) (h9 : H_nano S n p0 c9 n9 S9) : Rel S9 (gX2_nano T p0).2 := (act_nano hR h9).1
theorem cmp_nano {S : SX} {T : SM} {n : Int64} {p0 c9 : Int32} {n9 : Int64} {S9 : SX} (hR : Rel S T) (h9 : H_nano S n p0 c9 n9 S9) : fX2_thrown (gX2_nano T p0).2 = c9 ∧ (c9 = 0 → n9 = ((gX2_nano T p0).1).toInt64) := (act_nano hR h9).2
theorem b1_day {S : SX} {th p0 : Int32} (h : ¬ (vp_in p0 6)) : gX2_day (mkM th S) p0 = ((0 : Int32), mkM 1 S) := by
  unfold gX2_day
  rw [none_1 h]
  exact if_neg (frf_l1 _)
theorem g_day {S : SX} {th p0 : Int32} (hI : Inv S) (hM : vp_in p0 6) : gX2_day (mkM th S) p0 = (fX0_day S p0, mkM 0 S) := by
  unfold gX2_day; rw [none_0 hM]
  refine (if_pos (by decide)).trans ?_
  exact congrArg (fun z => (z.toInt32, mkM 0 S)) (dayNow_eq (th := 0) hI hM)
theorem act_day {S : SX} {T : SM} {n : Int64} {p0 c9 : Int32} {n9 : Int64} {S9 : SX} (hR : Rel S T) (h9 : H_day S n p0 c9 n9 S9) : Rel S9 (gX2_day T p0).2 ∧ (fX2_thrown (gX2_day T p0).2 = c9 ∧ (c9 = 0 → n9 = ((gX2_day T p0).1).toInt64)) := by
  obtain ⟨⟨th, rfl⟩, hI⟩ := hR
  rcases h9 with ⟨h, e1, e2, e3⟩ | ⟨hM, e1, e2, e3⟩
  all_goals (have e1 := e1.symm; have e2 := e2.symm; have e3 := e3.symm; subst e1; subst e2; subst e3)
  · rw [b1_day h]
    exact ⟨⟨⟨_, rfl⟩, hI⟩, rfl, fun z => absurd z (by decide)⟩
  · rw [g_day (th := th) hI hM]
    exact ⟨⟨⟨0, rfl⟩, hI⟩, rfl, fun _ => rfl⟩
theorem rel_day {S : SX} {T : SM} {n : Int64} {p0 c9 : Int32} {n9 : Int64} {S9 : SX} (hR : Rel S T) (h9 : H_day S n p0 c9 n9 S9) : Rel S9 (gX2_day T p0).2 := (act_day hR h9).1
theorem cmp_day {S : SX} {T : SM} {n : Int64} {p0 c9 : Int32} {n9 : Int64} {S9 : SX} (hR : Rel S T) (h9 : H_day S n p0 c9 n9 S9) : fX2_thrown (gX2_day T p0).2 = c9 ∧ (c9 = 0 → n9 = ((gX2_day T p0).1).toInt64) := (act_day hR h9).2
theorem b1_secondOfDay {S : SX} {th p0 : Int32} (h : ¬ (vp_in p0 6)) : gX2_secondOfDay (mkM th S) p0 = ((0 : Int32), mkM 1 S) := by
  unfold gX2_secondOfDay
  rw [none_1 h]
  exact if_neg (frf_l1 _)
theorem g_secondOfDay {S : SX} {th p0 : Int32} (hI : Inv S) (hM : vp_in p0 6) : gX2_secondOfDay (mkM th S) p0 = (fX0_secondOfDay S p0, mkM 0 S) := by
  unfold gX2_secondOfDay; rw [none_0 hM]
  refine (if_pos (by decide)).trans ?_
  exact congrArg (fun z => (z, mkM 0 S)) (sod_eq (hI.N hM))
theorem act_secondOfDay {S : SX} {T : SM} {n : Int64} {p0 c9 : Int32} {n9 : Int64} {S9 : SX} (hR : Rel S T) (h9 : H_secondOfDay S n p0 c9 n9 S9) : Rel S9 (gX2_secondOfDay T p0).2 ∧ (fX2_thrown (gX2_secondOfDay T p0).2 = c9 ∧ (c9 = 0 → n9 = ((gX2_secondOfDay T p0).1).toInt64)) := by
  obtain ⟨⟨th, rfl⟩, hI⟩ := hR
  rcases h9 with ⟨h, e1, e2, e3⟩ | ⟨hM, e1, e2, e3⟩
  all_goals (have e1 := e1.symm; have e2 := e2.symm; have e3 := e3.symm; subst e1; subst e2; subst e3)
  · rw [b1_secondOfDay h]
    exact ⟨⟨⟨_, rfl⟩, hI⟩, rfl, fun z => absurd z (by decide)⟩
  · rw [g_secondOfDay (th := th) hI hM]
    exact ⟨⟨⟨0, rfl⟩, hI⟩, rfl, fun _ => rfl⟩
theorem rel_secondOfDay {S : SX} {T : SM} {n : Int64} {p0 c9 : Int32} {n9 : Int64} {S9 : SX} (hR : Rel S T) (h9 : H_secondOfDay S n p0 c9 n9 S9) : Rel S9 (gX2_secondOfDay T p0).2 := (act_secondOfDay hR h9).1
theorem cmp_secondOfDay {S : SX} {T : SM} {n : Int64} {p0 c9 : Int32} {n9 : Int64} {S9 : SX} (hR : Rel S T) (h9 : H_secondOfDay S n p0 c9 n9 S9) : fX2_thrown (gX2_secondOfDay T p0).2 = c9 ∧ (c9 = 0 → n9 = ((gX2_secondOfDay T p0).1).toInt64) := (act_secondOfDay hR h9).2
theorem b1_lengthOfMonth {S : SX} {th p0 : Int32} (h : ¬ (vp_in p0 6)) : gX2_lengthOfMonth (mkM th S) p0 = ((0 : Int32), mkM 1 S) := by
  unfold gX2_lengthOfMonth
  rw [none_1 h]
  exact if_neg (frf_l1 _)
theorem g_lengthOfMonth {S : SX} {th p0 : Int32} (hI : Inv S) (hM : vp_in p0 6) : gX2_lengthOfMonth (mkM th S) p0 = (fX0_lengthOfMonth S p0, mkM 0 S) := by
  unfold gX2_lengthOfMonth; rw [none_0 hM]
  refine (if_pos (by decide)).trans ?_
  exact congrArg (fun z => (z, mkM 0 S)) (len_eq (hI.at hM).2.1)
theorem act_lengthOfMonth {S : SX} {T : SM} {n : Int64} {p0 c9 : Int32} {n9 : Int64} {S9 : SX} (hR : Rel S T) (h9 : H_lengthOfMonth S n p0 c9 n9 S9) : Rel S9 (gX2_lengthOfMonth T p0).2 ∧ (fX2_thrown (gX2_lengthOfMonth T p0).2 = c9 ∧ (c9 = 0 → n9 = ((gX2_lengthOfMonth T p0).1).toInt64)) := by
  obtain ⟨⟨th, rfl⟩, hI⟩ := hR
  rcases h9 with ⟨h, e1, e2, e3⟩ | ⟨hM, e1, e2, e3⟩
  all_goals (have e1 := e1.symm; have e2 := e2.symm; have e3 := e3.symm; subst e1; subst e2; subst e3)
  · rw [b1_lengthOfMonth h]
    exact ⟨⟨⟨_, rfl⟩, hI⟩, rfl, fun z => absurd z (by decide)⟩
  · rw [g_lengthOfMonth (th := th) hI hM]
    exact ⟨⟨⟨0, rfl⟩, hI⟩, rfl, fun _ => rfl⟩
theorem rel_lengthOfMonth {S : SX} {T : SM} {n : Int64} {p0 c9 : Int32} {n9 : Int64} {S9 : SX} (hR : Rel S T) (h9 : H_lengthOfMonth S n p0 c9 n9 S9) : Rel S9 (gX2_lengthOfMonth T p0).2 := (act_lengthOfMonth hR h9).1
theorem cmp_lengthOfMonth {S : SX} {T : SM} {n : Int64} {p0 c9 : Int32} {n9 : Int64} {S9 : SX} (hR : Rel S T) (h9 : H_lengthOfMonth S n p0 c9 n9 S9) : fX2_thrown (gX2_lengthOfMonth T p0).2 = c9 ∧ (c9 = 0 → n9 = ((gX2_lengthOfMonth T p0).1).toInt64) := (act_lengthOfMonth hR h9).2
theorem b1_compare {S : SX} {th p0 p1 : Int32} (h : ¬ (vp_in p0 6 ∧ vp_in p1 6)) : gX2_compare (mkM th S) p0 p1 = ((0 : Int32), mkM 1 S) := by
  unfold gX2_compare
  by_cases h0 : vp_in p0 6
  · rw [none_0 h0, none_1 (fun z => h ⟨h0, z⟩)]
    exact (if_pos rfl).trans (if_neg (frf_l1 _))
  · rw [none_1 h0]
    exact if_neg (by decide)
theorem g_compare {S : SX} {th p0 p1 : Int32} (hI : Inv S) (hM : vp_in p0 6 ∧ vp_in p1 6) : gX2_compare (mkM th S) p0 p1 = (fX0_compare S p0 p1, mkM 0 S) := by
  unfold gX2_compare; rw [none_0 hM.1, none_0 hM.2]
  refine ((if_pos rfl).trans (if_pos (by decide))).trans ?_
  exact congrArg (fun z => (z, mkM 0 S)) (order_eq (th := 0) hI hM.1 hM.2)
theorem act_compare {S : SX} {T : SM} {n : Int64} {p0 p1 c9 : Int32} {n9 : Int64} {S9 : SX} (hR : Rel S T) (h9 : H_compare S n p0 p1 c9 n9 S9) : Rel S9 (gX2_compare T p0 p1).2 ∧ (fX2_thrown (gX2_compare T p0 p1).2 = c9 ∧ (c9 = 0 → n9 = ((gX2_compare T p0 p1).1).toInt64)) := by
  obtain ⟨⟨th, rfl⟩, hI⟩ := hR
  rcases h9 with ⟨h, e1, e2, e3⟩ | ⟨hM, e1, e2, e3⟩
  all_goals (have e1 := e1.symm; have e2 := e2.symm; have e3 := e3.symm; subst e1; subst e2; subst e3)
  · rw [b1_compare h]
    exact ⟨⟨⟨_, rfl⟩, hI⟩, rfl, fun z => absurd z (by decide)⟩
  · rw [g_compare (th := th) hI hM]
    exact ⟨⟨⟨0, rfl⟩, hI⟩, rfl, fun _ => rfl⟩
theorem rel_compare {S : SX} {T : SM} {n : Int64} {p0 p1 c9 : Int32} {n9 : Int64} {S9 : SX} (hR : Rel S T) (h9 : H_compare S n p0 p1 c9 n9 S9) : Rel S9 (gX2_compare T p0 p1).2 := (act_compare hR h9).1
theorem cmp_compare {S : SX} {T : SM} {n : Int64} {p0 p1 c9 : Int32} {n9 : Int64} {S9 : SX} (hR : Rel S T) (h9 : H_compare S n p0 p1 c9 n9 S9) : fX2_thrown (gX2_compare T p0 p1).2 = c9 ∧ (c9 = 0 → n9 = ((gX2_compare T p0 p1).1).toInt64) := (act_compare hR h9).2
theorem b1_isSame {S : SX} {th p0 p1 : Int32} (h : ¬ (vp_in p0 6 ∧ vp_in p1 6)) : gX2_isSame (mkM th S) p0 p1 = ((0 : Int32), mkM 1 S) := by
  unfold gX2_isSame
  by_cases h0 : vp_in p0 6
  · rw [none_0 h0, none_1 (fun z => h ⟨h0, z⟩)]
    exact (if_pos rfl).trans (if_neg (frf_l1 _))
  · rw [none_1 h0]
    exact if_neg (by decide)
theorem g_isSame {S : SX} {th p0 p1 : Int32} (hI : Inv S) (hM : vp_in p0 6 ∧ vp_in p1 6) : gX2_isSame (mkM th S) p0 p1 = (fX0_isSame S p0 p1, mkM 0 S) := by
  unfold gX2_isSame; rw [none_0 hM.1, none_0 hM.2]
  refine ((if_pos rfl).trans (if_pos (by decide))).trans ?_
  have e := order_eq (th := 0) hI hM.1 hM.2
  have e2 : fX0_isSame S p0 p1 = (if fX0_order S p0 p1 = 0 then (1 : Int32) else (0 : Int32)) := same_eq.symm
  rw [e2]
  by_cases c : fX0_order S p0 p1 = 0
  · rw [if_pos c]; exact if_pos (e.trans c)
  · rw [if_neg c]; exact if_neg (fun z => c (e.symm.trans z))
theorem act_isSame {S : SX} {T : SM} {n : Int64} {p0 p1 c9 : Int32} {n9 : Int64} {S9 : SX} (hR : Rel S T) (h9 : H_isSame S n p0 p1 c9 n9 S9) : Rel S9 (gX2_isSame T p0 p1).2 ∧ (fX2_thrown (gX2_isSame T p0 p1).2 = c9 ∧ (c9 = 0 → n9 = fz9 (gX2_isSame T p0 p1).1)) := by
  obtain ⟨⟨th, rfl⟩, hI⟩ := hR
  rcases h9 with ⟨h, e1, e2, e3⟩ | ⟨hM, e1, e2, e3⟩
  all_goals (have e1 := e1.symm; have e2 := e2.symm; have e3 := e3.symm; subst e1; subst e2; subst e3)
  · rw [b1_isSame h]
    exact ⟨⟨⟨_, rfl⟩, hI⟩, rfl, fun z => absurd z (by decide)⟩
  · rw [g_isSame (th := th) hI hM]
    exact ⟨⟨⟨0, rfl⟩, hI⟩, rfl, fun _ => rfl⟩
theorem rel_isSame {S : SX} {T : SM} {n : Int64} {p0 p1 c9 : Int32} {n9 : Int64} {S9 : SX} (hR : Rel S T) (h9 : H_isSame S n p0 p1 c9 n9 S9) : Rel S9 (gX2_isSame T p0 p1).2 := (act_isSame hR h9).1
theorem cmp_isSame {S : SX} {T : SM} {n : Int64} {p0 p1 c9 : Int32} {n9 : Int64} {S9 : SX} (hR : Rel S T) (h9 : H_isSame S n p0 p1 c9 n9 S9) : fX2_thrown (gX2_isSame T p0 p1).2 = c9 ∧ (c9 = 0 → n9 = fz9 (gX2_isSame T p0 p1).1) := (act_isSame hR h9).2
theorem b1_isLeap {S : SX} {th p0 : Int32} (h : ¬ (vp_in p0 6)) : gX2_isLeap (mkM th S) p0 = ((0 : Int32), mkM 1 S) := by
  unfold gX2_isLeap
  rw [none_1 h]
  exact if_neg (frf_l1 _)
theorem g_isLeap {S : SX} {th p0 : Int32} (hI : Inv S) (hM : vp_in p0 6) : gX2_isLeap (mkM th S) p0 = (fX0_isLeap S p0, mkM 0 S) := by
  unfold gX2_isLeap; rw [none_0 hM]
  refine (if_pos (by decide)).trans ?_
  have e : fX2_isLeapYear (my (mkM th S) p0.toNatClampNeg) = fX0_isLeap S p0 := leap_eq _
  rw [e]
  have h2 : fX0_isLeap S p0 = 1 ∨ fX0_isLeap S p0 = 0 := by
    rcases leap0 (xy S p0.toNatClampNeg) with ⟨-, z⟩ | ⟨-, z⟩
    · exact Or.inl z
    · exact Or.inr z
  rcases h2 with z | z <;> rw [z]
  · exact if_neg (by decide)
  · exact if_pos rfl
theorem act_isLeap {S : SX} {T : SM} {n : Int64} {p0 c9 : Int32} {n9 : Int64} {S9 : SX} (hR : Rel S T) (h9 : H_isLeap S n p0 c9 n9 S9) : Rel S9 (gX2_isLeap T p0).2 ∧ (fX2_thrown (gX2_isLeap T p0).2 = c9 ∧ (c9 = 0 → n9 = fz9 (gX2_isLeap T p0).1)) := by
  obtain ⟨⟨th, rfl⟩, hI⟩ := hR
  rcases h9 with ⟨h, e1, e2, e3⟩ | ⟨hM, e1, e2, e3⟩
  all_goals (have e1 := e1.symm; have e2 := e2.symm; have e3 := e3.symm; subst e1; subst e2; subst e3)
  · rw [b1_isLeap h]
    exact ⟨⟨⟨_, rfl⟩, hI⟩, rfl, fun z => absurd z (by decide)⟩
  · rw [g_isLeap (th := th) hI hM]
    exact ⟨⟨⟨0, rfl⟩, hI⟩, rfl, fun _ => rfl⟩
theorem rel_isLeap {S : SX} {T : SM} {n : Int64} {p0 c9 : Int32} {n9 : Int64} {S9 : SX} (hR : Rel S T) (h9 : H_isLeap S n p0 c9 n9 S9) : Rel S9 (gX2_isLeap T p0).2 := (act_isLeap hR h9).1
theorem cmp_isLeap {S : SX} {T : SM} {n : Int64} {p0 c9 : Int32} {n9 : Int64} {S9 : SX} (hR : Rel S T) (h9 : H_isLeap S n p0 c9 n9 S9) : fX2_thrown (gX2_isLeap T p0).2 = c9 ∧ (c9 = 0 → n9 = fz9 (gX2_isLeap T p0).1) := (act_isLeap hR h9).2
theorem b1_isSameAs {S : SX} {th p0 p1 : Int32} (h : ¬ (vp_in p0 6)) : gX2_isSameAs (mkM th S) p0 p1 = ((0 : Int32), mkM 1 S) := by
  unfold gX2_isSameAs
  rw [none_1 h]
  exact if_neg (frf_l1 _)
theorem b2_isSameAs {S : SX} {th p0 p1 : Int32} (hM : vp_in p0 6) (h : ¬ ((¬ p1 < (0 : Int32) ∧ p1 ≤ (4 : Int32)))) : gX2_isSameAs (mkM th S) p0 p1 = ((0 : Int32), mkM 2 S) := by
  unfold gX2_isSameAs
  rw [none_0 hM, from_0 h]
  exact if_neg (by decide)
theorem g_isSameAs {S : SX} {th p0 p1 : Int32} (hI : Inv S) (hM : vp_in p0 6) (hR : (¬ p1 < (0 : Int32) ∧ p1 ≤ (4 : Int32))) : gX2_isSameAs (mkM th S) p0 p1 = (fX0_isSameAs S p0 p1, mkM 0 S) := by
  have r := (rg hR (by decide : (0 : Int32).toInt = 0) (by decide : (4 : Int32).toInt = 4))
  unfold gX2_isSameAs; rw [none_0 hM, from_1 hR.1 hR.2]
  refine (if_pos (by decide)).trans ?_
  rw [sameAs_eq hI hM r]
  by_cases c : p1 ≤ (2 : Int32)
  · rw [if_pos c, if_pos c]; rfl
  · rw [if_neg c, if_neg c]; rfl
theorem act_isSameAs {S : SX} {T : SM} {n : Int64} {p0 p1 c9 : Int32} {n9 : Int64} {S9 : SX} (hR : Rel S T) (h9 : H_isSameAs S n p0 p1 c9 n9 S9) : Rel S9 (gX2_isSameAs T p0 p1).2 ∧ (fX2_thrown (gX2_isSameAs T p0 p1).2 = c9 ∧ (c9 = 0 → n9 = fz9 (gX2_isSameAs T p0 p1).1)) := by
  obtain ⟨⟨th, rfl⟩, hI⟩ := hR
  rcases h9 with ⟨h, e1, e2, e3⟩ | ⟨hM, h, e1, e2, e3⟩ | ⟨hM, hR, e1, e2, e3⟩
  all_goals (have e1 := e1.symm; have e2 := e2.symm; have e3 := e3.symm; subst e1; subst e2; subst e3)
  · rw [b1_isSameAs h]
    exact ⟨⟨⟨_, rfl⟩, hI⟩, rfl, fun z => absurd z (by decide)⟩
  · rw [b2_isSameAs hM h]
    exact ⟨⟨⟨_, rfl⟩, hI⟩, rfl, fun z => absurd z (by decide)⟩
  · rw [g_isSameAs (th := th) hI hM hR]
    exact ⟨⟨⟨0, rfl⟩, hI⟩, rfl, fun _ => rfl⟩
theorem rel_isSameAs {S : SX} {T : SM} {n : Int64} {p0 p1 c9 : Int32} {n9 : Int64} {S9 : SX} (hR : Rel S T) (h9 : H_isSameAs S n p0 p1 c9 n9 S9) : Rel S9 (gX2_isSameAs T p0 p1).2 := (act_isSameAs hR h9).1
theorem cmp_isSameAs {S : SX} {T : SM} {n : Int64} {p0 p1 c9 : Int32} {n9 : Int64} {S9 : SX} (hR : Rel S T) (h9 : H_isSameAs S n p0 p1 c9 n9 S9) : fX2_thrown (gX2_isSameAs T p0 p1).2 = c9 ∧ (c9 = 0 → n9 = fz9 (gX2_isSameAs T p0 p1).1) := (act_isSameAs hR h9).2
theorem b1_nanoOfDay {S : SX} {th p0 : Int32} (h : ¬ (vp_in p0 6)) : gX2_nanoOfDay (mkM th S) p0 = mkM 1 S := by
  unfold gX2_nanoOfDay
  rw [none_1 h]
  exact if_neg (frf_l1 _)
theorem g_nanoOfDay {S : SX} {th p0 : Int32} (hI : Inv S) (hM : vp_in p0 6) : gX2_nanoOfDay (mkM th S) p0 = mkM 0 (gX0_nanoOfDay S p0) ∧ Inv (gX0_nanoOfDay S p0) := by
  refine ⟨?_, hI⟩
  unfold gX2_nanoOfDay; rw [none_0 hM]
  exact if_pos (by decide)
theorem act_nanoOfDay {S : SX} {T : SM} {n : Int64} {p0 c9 : Int32} {n9 : Int64} {S9 : SX} (hR : Rel S T) (h9 : H_nanoOfDay S n p0 c9 n9 S9) : Rel S9 (gX2_nanoOfDay T p0) := by
  obtain ⟨⟨th, rfl⟩, hI⟩ := hR
  rcases h9 with ⟨h, e1, e2, e3⟩ | ⟨hM, e1, e2, e3⟩
  all_goals (have e1 := e1.symm; have e2 := e2.symm; have e3 := e3.symm; subst e1; subst e2; subst e3)
  · rw [b1_nanoOfDay h]
    exact ⟨⟨_, rfl⟩, hI⟩
  · obtain ⟨e, i⟩ := g_nanoOfDay (th := th) hI hM
    rw [e]
    exact ⟨⟨0, rfl⟩, i⟩
theorem rel_nanoOfDay {S : SX} {T : SM} {n : Int64} {p0 c9 : Int32} {n9 : Int64} {S9 : SX} (hR : Rel S T) (h9 : H_nanoOfDay S n p0 c9 n9 S9) : Rel S9 (gX2_nanoOfDay T p0) := act_nanoOfDay hR h9
theorem b1_field {S : SX} {th p0 p1 : Int32} (h : ¬ (vp_in p0 6)) : gX2_field (mkM th S) p0 p1 = mkM 1 S := by
  unfold gX2_field
  rw [none_1 h]
  exact if_neg (frf_l1 _)
theorem b2_field {S : SX} {th p0 p1 : Int32} (hM : vp_in p0 6) (h : ¬ ((¬ p1 < (0 : Int32) ∧ p1 ≤ (27 : Int32)))) : gX2_field (mkM th S) p0 p1 = mkM 2 S := by
  unfold gX2_field
  rw [none_0 hM, from_0 h]
  exact if_neg (by decide)
theorem g_field {S : SX} {th p0 p1 : Int32} (hI : Inv S) (hM : vp_in p0 6) (hR : (¬ p1 < (0 : Int32) ∧ p1 ≤ (27 : Int32))) : gX2_field (mkM th S) p0 p1 = mkM 0 (gX0_field S p0 p1) ∧ Inv (gX0_field S p0 p1) := by
  have e : gX0_field S p0 p1 = S := ite_self _
  rw [e]
  refine ⟨?_, hI⟩
  unfold gX2_field; rw [none_0 hM, from_1 hR.1 hR.2]
  exact (if_pos (by decide)).trans (ite_self _)
theorem act_field {S : SX} {T : SM} {n : Int64} {p0 p1 c9 : Int32} {n9 : Int64} {S9 : SX} (hR : Rel S T) (h9 : H_field S n p0 p1 c9 n9 S9) : Rel S9 (gX2_field T p0 p1) := by
  obtain ⟨⟨th, rfl⟩, hI⟩ := hR
  rcases h9 with ⟨h, e1, e2, e3⟩ | ⟨hM, h, e1, e2, e3⟩ | ⟨hM, hR, e1, e2, e3⟩
  all_goals (have e1 := e1.symm; have e2 := e2.symm; have e3 := e3.symm; subst e1; subst e2; subst e3)
  · rw [b1_field h]
    exact ⟨⟨_, rfl⟩, hI⟩
  · rw [b2_field hM h]
    exact ⟨⟨_, rfl⟩, hI⟩
  · obtain ⟨e, i⟩ := g_field (th := th) hI hM hR
    rw [e]
    exact ⟨⟨0, rfl⟩, i⟩
theorem rel_field {S : SX} {T : SM} {n : Int64} {p0 p1 c9 : Int32} {n9 : Int64} {S9 : SX} (hR : Rel S T) (h9 : H_field S n p0 p1 c9 n9 S9) : Rel S9 (gX2_field T p0 p1) := act_field hR h9
theorem b1_between {S : SX} {th p0 p1 p2 : Int32} (h : ¬ (vp_in p0 6 ∧ vp_in p1 6)) : gX2_between (mkM th S) p0 p1 p2 = mkM 1 S := by
  unfold gX2_between
  by_cases h0 : vp_in p0 6
  · rw [none_0 h0, none_1 (fun z => h ⟨h0, z⟩)]
    exact (if_pos rfl).trans (if_neg (frf_l1 _))
  · rw [none_1 h0]
    exact if_neg (by decide)
theorem b2_between {S : SX} {th p0 p1 p2 : Int32} (hM : vp_in p0 6 ∧ vp_in p1 6) (h : ¬ ((¬ p2 < (0 : Int32) ∧ p2 ≤ (13 : Int32)))) : gX2_between (mkM th S) p0 p1 p2 = mkM 2 S := by
  unfold gX2_between
  rw [none_0 hM.1, none_0 hM.2, from_0 h]
  exact (if_pos rfl).trans (if_neg (by decide))
theorem g_between {S : SX} {th p0 p1 p2 : Int32} (hI : Inv S) (hM : vp_in p0 6 ∧ vp_in p1 6) (hR : (¬ p2 < (0 : Int32) ∧ p2 ≤ (13 : Int32))) : gX2_between (mkM th S) p0 p1 p2 = mkM 0 (gX0_between S p0 p1 p2) ∧ Inv (gX0_between S p0 p1 p2) := by
  have k := gap_eq (th := 0) (u := p2) hI hM.1 hM.2
  refine ⟨?_, k.2⟩
  unfold gX2_between; rw [none_0 hM.1, none_0 hM.2, from_1 hR.1 hR.2]
  exact ((if_pos rfl).trans (if_pos (by decide))).trans k.1
theorem act_between {S : SX} {T : SM} {n : Int64} {p0 p1 p2 c9 : Int32} {n9 : Int64} {S9 : SX} (hR : Rel S T) (h9 : H_between S n p0 p1 p2 c9 n9 S9) : Rel S9 (gX2_between T p0 p1 p2) := by
  obtain ⟨⟨th, rfl⟩, hI⟩ := hR
  rcases h9 with ⟨h, e1, e2, e3⟩ | ⟨hM, h, e1, e2, e3⟩ | ⟨hM, hR, e1, e2, e3⟩
  all_goals (have e1 := e1.symm; have e2 := e2.symm; have e3 := e3.symm; subst e1; subst e2; subst e3)
  · rw [b1_between h]
    exact ⟨⟨_, rfl⟩, hI⟩
  · rw [b2_between hM h]
    exact ⟨⟨_, rfl⟩, hI⟩
  · obtain ⟨e, i⟩ := g_between (th := th) hI hM hR
    rw [e]
    exact ⟨⟨0, rfl⟩, i⟩
theorem rel_between {S : SX} {T : SM} {n : Int64} {p0 p1 p2 c9 : Int32} {n9 : Int64} {S9 : SX} (hR : Rel S T) (h9 : H_between S n p0 p1 p2 c9 n9 S9) : Rel S9 (gX2_between T p0 p1 p2) := act_between hR h9
theorem b1_until {S : SX} {th p0 p1 p2 : Int32} (h : ¬ (vp_in p0 6 ∧ vp_in p1 6)) : gX2_until (mkM th S) p0 p1 p2 = mkM 1 S := by
  unfold gX2_until
  by_cases h0 : vp_in p0 6
  · rw [none_0 h0, none_1 (fun z => h ⟨h0, z⟩)]
    exact (if_pos rfl).trans (if_neg (frf_l1 _))
  · rw [none_1 h0]
    exact if_neg (by decide)
theorem b2_until {S : SX} {th p0 p1 p2 : Int32} (hM : vp_in p0 6 ∧ vp_in p1 6) (h : ¬ ((¬ p2 < (0 : Int32) ∧ p2 ≤ (13 : Int32)))) : gX2_until (mkM th S) p0 p1 p2 = mkM 2 S := by
  unfold gX2_until
  rw [none_0 hM.1, none_0 hM.2, from_0 h]
  exact (if_pos rfl).trans (if_neg (by decide))
theorem g_until {S : SX} {th p0 p1 p2 : Int32} (hI : Inv S) (hM : vp_in p0 6 ∧ vp_in p1 6) (hR : (¬ p2 < (0 : Int32) ∧ p2 ≤ (13 : Int32))) : gX2_until (mkM th S) p0 p1 p2 = mkM 0 (gX0_until S p0 p1 p2) ∧ Inv (gX0_until S p0 p1 p2) := by
  have k := gap_eq (th := 0) (u := p2) hI hM.1 hM.2
  refine ⟨?_, k.2⟩
  unfold gX2_until; rw [none_0 hM.1, none_0 hM.2, from_1 hR.1 hR.2]
  exact ((if_pos rfl).trans (if_pos (by decide))).trans k.1
theorem act_until {S : SX} {T : SM} {n : Int64} {p0 p1 p2 c9 : Int32} {n9 : Int64} {S9 : SX} (hR : Rel S T) (h9 : H_until S n p0 p1 p2 c9 n9 S9) : Rel S9 (gX2_until T p0 p1 p2) := by
  obtain ⟨⟨th, rfl⟩, hI⟩ := hR
  rcases h9 with ⟨h, e1, e2, e3⟩ | ⟨hM, h, e1, e2, e3⟩ | ⟨hM, hR, e1, e2, e3⟩
  all_goals (have e1 := e1.symm; have e2 := e2.symm; have e3 := e3.symm; subst e1; subst e2; subst e3)
  · rw [b1_until h]
    exact ⟨⟨_, rfl⟩, hI⟩
  · rw [b2_until hM h]
    exact ⟨⟨_, rfl⟩, hI⟩
  · obtain ⟨e, i⟩ := g_until (th := th) hI hM hR
    rw [e]
    exact ⟨⟨0, rfl⟩, i⟩
theorem rel_until {S : SX} {T : SM} {n : Int64} {p0 p1 p2 c9 : Int32} {n9 : Int64} {S9 : SX} (hR : Rel S T) (h9 : H_until S n p0 p1 p2 c9 n9 S9) : Rel S9 (gX2_until T p0 p1 p2) := act_until hR h9
theorem b2_hand {S : SX} {th p0 p1 p2 p3 : Int32} (h : ¬ ((¬ p0 < (0 : Int32) ∧ p0 ≤ (23 : Int32)) ∧ (¬ p1 < (0 : Int32) ∧ p1 ≤ (59 : Int32)) ∧ (¬ p2 < (0 : Int32) ∧ p2 ≤ (59 : Int32)) ∧ (¬ p3 < (0 : Int32) ∧ p3 ≤ (999999999 : Int32)))) : gX2_hand (mkM th S) p0 p1 p2 p3 = ((0 : Int32), mkM 1 S) := by
  unfold gX2_hand
  by_cases c0 : (¬ p0 < (0 : Int32) ∧ p0 ≤ (23 : Int32))
  case neg => rw [from_0 c0]; exact if_pos rfl
  rw [from_1 c0.1 c0.2]
  refine (if_neg (by decide)).trans ?_
  by_cases c1 : (¬ p1 < (0 : Int32) ∧ p1 ≤ (59 : Int32))
  case neg => rw [from_0 c1]; exact if_pos rfl
  rw [from_1 c1.1 c1.2]
  refine (if_neg (by decide)).trans ?_
  by_cases c2 : (¬ p2 < (0 : Int32) ∧ p2 ≤ (59 : Int32))
  case neg => rw [from_0 c2]; exact if_pos rfl
  rw [from_1 c2.1 c2.2]
  refine (if_neg (by decide)).trans ?_
  rw [from_0 (fun z => h ⟨c0, c1, c2, z⟩)]
  exact if_neg (by decide)
theorem g_hand {S : SX} {th p0 p1 p2 p3 : Int32} (hI : Inv S) (hR : (¬ p0 < (0 : Int32) ∧ p0 ≤ (23 : Int32)) ∧ (¬ p1 < (0 : Int32) ∧ p1 ≤ (59 : Int32)) ∧ (¬ p2 < (0 : Int32) ∧ p2 ≤ (59 : Int32)) ∧ (¬ p3 < (0 : Int32) ∧ p3 ≤ (999999999 : Int32))) : GO 0 (gX2_hand (mkM th S) p0 p1 p2 p3) (gX0_hand S p0 p1 p2 p3) := by
  have e1 : gX2_hand (mkM th S) p0 p1 p2 p3 = ((gX0_hand S p0 p1 p2 p3).1, mkM 0 (gX0_hand S p0 p1 p2 p3).2) := by
    unfold gX2_hand; rw [from_1 hR.1.1 hR.1.2, from_1 hR.2.1.1 hR.2.1.2, from_1 hR.2.2.1.1 hR.2.2.1.2, from_1 hR.2.2.2.1 hR.2.2.2.2]
    exact (if_neg (by decide)).trans ((if_neg (by decide)).trans ((if_neg (by decide)).trans (if_pos (by decide))))
  exact ⟨e1, hI.1, (rg hR.1 (by decide : (0 : Int32).toInt = 0) (by decide : (23 : Int32).toInt = 23)), (rg hR.2.1 (by decide : (0 : Int32).toInt = 0) (by decide : (59 : Int32).toInt = 59)), (rg hR.2.2.1 (by decide : (0 : Int32).toInt = 0) (by decide : (59 : Int32).toInt = 59)), (rg hR.2.2.2 (by decide : (0 : Int32).toInt = 0) (by decide : (999999999 : Int32).toInt = 999999999))⟩
theorem act_hand {S : SX} {T : SM} {n : Int64} {p0 p1 p2 p3 c9 : Int32} {n9 : Int64} {S9 : SX} (hR : Rel S T) (h9 : H_hand S n p0 p1 p2 p3 c9 n9 S9) : Rel S9 (gX2_hand T p0 p1 p2 p3).2 ∧ (fX2_thrown (gX2_hand T p0 p1 p2 p3).2 = c9 ∧ (c9 = 0 → n9 = ((gX2_hand T p0 p1 p2 p3).1).toInt64)) := by
  obtain ⟨⟨th, rfl⟩, hI⟩ := hR
  rcases h9 with ⟨h, e1, e2, e3⟩ | ⟨hR, e1, e2, e3⟩
  all_goals (have e1 := e1.symm; have e2 := e2.symm; have e3 := e3.symm; subst e1; subst e2; subst e3)
  · rw [b2_hand h]
    exact ⟨⟨⟨_, rfl⟩, hI⟩, rfl, fun z => absurd z (by decide)⟩
  · exact fin_W (g_hand (th := th) hI hR)
theorem rel_hand {S : SX} {T : SM} {n : Int64} {p0 p1 p2 p3 c9 : Int32} {n9 : Int64} {S9 : SX} (hR : Rel S T) (h9 : H_hand S n p0 p1 p2 p3 c9 n9 S9) : Rel S9 (gX2_hand T p0 p1 p2 p3).2 := (act_hand hR h9).1
theorem cmp_hand {S : SX} {T : SM} {n : Int64} {p0 p1 p2 p3 c9 : Int32} {n9 : Int64} {S9 : SX} (hR : Rel S T) (h9 : H_hand S n p0 p1 p2 p3 c9 n9 S9) : fX2_thrown (gX2_hand T p0 p1 p2 p3).2 = c9 ∧ (c9 = 0 → n9 = ((gX2_hand T p0 p1 p2 p3).1).toInt64) := (act_hand hR h9).2
theorem b2_house {S : SX} {th p0 : Int32} (h : ¬ ((¬ p0 < (0 : Int32) ∧ p0 ≤ (5 : Int32)))) : gX2_house (mkM th S) p0 = ((0 : Int32), mkM 1 S) := by
  unfold gX2_house
  rw [from_0 h]
  exact if_neg (by decide)
theorem g_house {S : SX} {th p0 : Int32} (hI : Inv S) (hR : (¬ p0 < (0 : Int32) ∧ p0 ≤ (5 : Int32))) : gX2_house (mkM th S) p0 = (fX0_house S p0, mkM 0 S) := by
  unfold gX2_house; rw [from_1 hR.1 hR.2]
  refine (if_pos (by decide)).trans ?_
  exact congrArg (fun z => (z, mkM 0 S)) (house_eq (th := 0) hI)
theorem act_house {S : SX} {T : SM} {n : Int64} {p0 c9 : Int32} {n9 : Int64} {S9 : SX} (hR : Rel S T) (h9 : H_house S n p0 c9 n9 S9) : Rel S9 (gX2_house T p0).2 ∧ (fX2_thrown (gX2_house T p0).2 = c9 ∧ (c9 = 0 → n9 = ((gX2_house T p0).1).toInt64)) := by
  obtain ⟨⟨th, rfl⟩, hI⟩ := hR
  rcases h9 with ⟨h, e1, e2, e3⟩ | ⟨hR, e1, e2, e3⟩
  all_goals (have e1 := e1.symm; have e2 := e2.symm; have e3 := e3.symm; subst e1; subst e2; subst e3)
  · rw [b2_house h]
    exact ⟨⟨⟨_, rfl⟩, hI⟩, rfl, fun z => absurd z (by decide)⟩
  · rw [g_house (th := th) hI hR]
    exact ⟨⟨⟨0, rfl⟩, hI⟩, rfl, fun _ => rfl⟩
theorem rel_house {S : SX} {T : SM} {n : Int64} {p0 c9 : Int32} {n9 : Int64} {S9 : SX} (hR : Rel S T) (h9 : H_house S n p0 c9 n9 S9) : Rel S9 (gX2_house T p0).2 := (act_house hR h9).1
theorem cmp_house {S : SX} {T : SM} {n : Int64} {p0 c9 : Int32} {n9 : Int64} {S9 : SX} (hR : Rel S T) (h9 : H_house S n p0 c9 n9 S9) : fX2_thrown (gX2_house T p0).2 = c9 ∧ (c9 = 0 → n9 = ((gX2_house T p0).1).toInt64) := (act_house hR h9).2
/-! a constructor of a class of the same nest -/
section KN
variable {p : Program} {l : Launch} {e : Env} {R : Room} {s : State} {m : MethodId} {args : Array Value} {below : List Frame} {meth : Method} {c : Code} {H : Heap} {locs : List Loc} {cells slots : Nat} {Q : State → Prop}
variable {cc : ByteArray} {pc : Nat} {ls : Array Slot} {rest st0 : List Value} {G : GT}
theorem weIN {own host : String} {nL index : Nat} {y : MethodName} {b : ByteArray} {maxL k n mc ms : Nat} {o : Nat} {as : List Value} {wr wd : va_W} {P : Option Value → va_W → Prop} {A : Nat → Prop} (C : CallFix p m c cc nL s args BW own) (hM : WE l G y b maxL none k mc ms (.ref o :: as) wd P) (F : CF y b maxL none n) (hn : as.length = n) (hL : va_Nw (.methodLinkNest own index y host) s) (hst : Cond.instanceMethod y ∈ BW) (hy1 : y.name = "<init>") (hE : EV G s H) (hP : va_P (gD G) vwCl (wr ++ wd) H) (hD : va_D A (wr ++ wd)) (hS : va_S A s.heap H locs) (hA : ∀ q : Nat, s.heap.size ≤ q → A q) (hAB : ∀ q : Nat, A q → gB G ≤ q)
    (hl : ls.size = nL) (hdg : decode cc pc = .ok (.invokespecial index, 3)) (hR : (rmK k mc ms).frames + 1 ≤ R.frames ∧ 8 + (maxL + 11) + (rmK k mc ms).locals ≤ R.locals) (hs0 : st0 = as.reverse ++ .ref o :: rest) (hW : (rest.map fun v => v.category).sum ≤ 8) (hf : cells + mc ≤ R.cells ∧ slots + ms ≤ R.slots)
    (kk : ∀ (r : Option Value) (wd' : va_W) (H1 : Heap) (locs1 : List Loc), P r wd' → va_P (gD G) vwCl (wr ++ wd') H1 → va_D A (wr ++ wd') → va_S A s.heap H1 locs1 → W p l e R s m args below meth c H1 locs1 (cells + mc) (slots + ms) Q (F0 m (pc + 3) ls (r.toList ++ rest))) : W p l e R s m args below meth c H locs cells slots Q (F0 m pc ls st0) :=
  we0 hP hD hS hA (va_runIN (b := o) (As := as) (rest := rest) C (hM H.size) ⟨va_cnB n C.2.2.2.2 (gcBW F.1) rfl rfl rfl hL (C.2.2.2.2 _ F.2.1) F.2.2.2 hR, hy1, C.2.2.2.2 _ hst⟩ ⟨PW.blind, fun U hU hW => ⟨rfl, by rw [hU], by rw [hU]; exact EV.warm hW hE, by rw [hU]; exact P_tl hP, (D_tl hD).weaken (fun _ q _ h => hAB q.1 h)⟩⟩ rfl hn hl hs0 (lv_room hW) hdg hf) kk
end KN
theorem inv_0 : Inv sx0 := by
  refine ⟨fun j hj => ?_, by decide, by decide, by decide, by decide⟩
  have k : j = 0 ∨ j = 1 ∨ j = 2 ∨ j = 3 ∨ j = 4 ∨ j = 5 := by omega
  have h : DV (2000 : Int32) (1 : Int32) (1 : Int32) ∧ fX0_firstDayOf (2000 : Int32) = fX0_dayOf (2000 : Int32) (1 : Int32) (1 : Int32) ∧ TV (0 : Int64) := by
    refine ⟨⟨?_, ?_, by decide, by decide +kernel⟩, by decide +kernel, ?_⟩
    · unfold YR; decide
    · unfold MN; decide
    · unfold TV; decide
  rcases k with rfl | rfl | rfl | rfl | rfl | rfl <;> exact h
theorem rel_init : Rel sx0 sm0 := by
  refine ⟨⟨0, ?_⟩, inv_0⟩
  show sm0 = ((0 : Int32), xy sx0, xm sx0, xd sx0, xN sx0, sx0.2.2.2.2.2)
  rfl
theorem rel_digest {S : SX} {T : SM} (hR : Rel S T) : Rel S (gX2_digest T).2 := by
  obtain ⟨⟨th, rfl⟩, hI⟩ := hR
  exact ⟨⟨0, rfl⟩, hI⟩
