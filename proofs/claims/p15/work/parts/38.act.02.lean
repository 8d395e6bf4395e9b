theorem g_takeTime {S : SX} {th p0 p1 : Int32} (hI : Inv S) (hM : vp_in p0 6 ∧ vp_in p1 6) : GO 0 (gX2_takeTime (mkM th S) p0 p1) (gX0_takeTime S p0 p1) := by
  have e1 : gX2_takeTime (mkM th S) p0 p1 = gX2_become (mkM 0 S) p0 (xy S p0.toNatClampNeg) (xm S p0.toNatClampNeg) (xd S p0.toNatClampNeg) (xN S p1.toNatClampNeg) := by
    unfold gX2_takeTime; rw [none_0 hM.1, none_0 hM.2]
    exact ((if_pos rfl).trans (if_pos (by decide))).trans peta
  have e0 : gX0_takeTime S p0 p1 = gX0_becomeDate S p0 (xy S p0.toNatClampNeg) (xm S p0.toNatClampNeg) (xd S p0.toNatClampNeg) (xN S p1.toNatClampNeg) := (peta (q := gX0_becomeAs S p0 p0 (xN S p1.toNatClampNeg))).trans peta
  rw [e1, e0]
  exact become_eq hI hM.1 (hI.at hM.1) (hI.N hM.2)
theorem act_takeTime {S : SX} {T : SM} {n : Int64} {p0 p1 c9 : Int32} {n9 : Int64} {S9 : SX} (hR : Rel S T) (h9 : H_takeTime S n p0 p1 c9 n9 S9) : Rel S9 (gX2_takeTime T p0 p1).2 ∧ (fX2_thrown (gX2_takeTime T p0 p1).2 = c9 ∧ (c9 = 0 → n9 = ((gX2_takeTime T p0 p1).1).toInt64)) := by
  obtain ⟨⟨th, rfl⟩, hI⟩ := hR
  rcases h9 with ⟨h, e1, e2, e3⟩ | ⟨hM, e1, e2, e3⟩
  all_goals (have e1 := e1.symm; have e2 := e2.symm; have e3 := e3.symm; subst e1; subst e2; subst e3)
  · rw [b1_takeTime h]
    exact ⟨⟨⟨_, rfl⟩, hI⟩, rfl, fun z => absurd z (by decide)⟩
  · exact fin_W (g_takeTime (th := th) hI hM)
theorem rel_takeTime {S : SX} {T : SM} {n : Int64} {p0 p1 c9 : Int32} {n9 : Int64} {S9 : SX} (hR : Rel S T) (h9 : H_takeTime S n p0 p1 c9 n9 S9) : Rel S9 (gX2_takeTime T p0 p1).2 := (act_takeTime hR h9).1
theorem cmp_takeTime {S : SX} {T : SM} {n : Int64} {p0 p1 c9 : Int32} {n9 : Int64} {S9 : SX} (hR : Rel S T) (h9 : H_takeTime S n p0 p1 c9 n9 S9) : fX2_thrown (gX2_takeTime T p0 p1).2 = c9 ∧ (c9 = 0 → n9 = ((gX2_takeTime T p0 p1).1).toInt64) := (act_takeTime hR h9).2
theorem b1_withYear {S : SX} {th p0 p1 : Int32} (h : ¬ (vp_in p0 6)) : gX2_withYear (mkM th S) p0 p1 = ((0 : Int32), mkM 1 S) := by
  unfold gX2_withYear
  rw [none_1 h]
  exact if_neg (frf_l1 _)
theorem b2_withYear {S : SX} {th p0 p1 : Int32} (hM : vp_in p0 6) (h : ¬ ((¬ p1 < (-9999 : Int32) ∧ p1 ≤ (9999 : Int32)))) : gX2_withYear (mkM th S) p0 p1 = ((0 : Int32), mkM 2 S) := by
  unfold gX2_withYear
  rw [none_0 hM, from_0 h]
  exact if_neg (by decide)
theorem g_withYear {S : SX} {th p0 p1 : Int32} (hI : Inv S) (hM : vp_in p0 6) (hR : (¬ p1 < (-9999 : Int32) ∧ p1 ≤ (9999 : Int32))) : GO 0 (gX2_withYear (mkM th S) p0 p1) (gX0_withYear S p0 p1) := by
  have e1 : gX2_withYear (mkM th S) p0 p1 = gX2_becomeMonth (mkM 0 S) p0 (p1.toInt64) (xm S p0.toNatClampNeg) := by
    unfold gX2_withYear; rw [none_0 hM, from_1 hR.1 hR.2]
    exact (if_pos (by decide)).trans peta
  have e0 : gX0_withYear S p0 p1 = gX0_becomeMonth S p0 p1 (xm S p0.toNatClampNeg) := peta
  rw [e1, e0]
  exact becomeMonth_eq hI hM (oL rfl) (rg hR (by decide : (-9999 : Int32).toInt = -9999) (by decide : (9999 : Int32).toInt = 9999)) (hI.at hM).2.1
theorem act_withYear {S : SX} {T : SM} {n : Int64} {p0 p1 c9 : Int32} {n9 : Int64} {S9 : SX} (hR : Rel S T) (h9 : H_withYear S n p0 p1 c9 n9 S9) : Rel S9 (gX2_withYear T p0 p1).2 ∧ (fX2_thrown (gX2_withYear T p0 p1).2 = c9 ∧ (c9 = 0 → n9 = ((gX2_withYear T p0 p1).1).toInt64)) := by
  obtain ⟨⟨th, rfl⟩, hI⟩ := hR
  rcases h9 with ⟨h, e1, e2, e3⟩ | ⟨hM, h, e1, e2, e3⟩ | ⟨hM, hR, e1, e2, e3⟩
  all_goals (have e1 := e1.symm; have e2 := e2.symm; have e3 := e3.symm; subst e1; subst e2; subst e3)
  · rw [b1_withYear h]
    exact ⟨⟨⟨_, rfl⟩, hI⟩, rfl, fun z => absurd z (by decide)⟩
  · rw [b2_withYear hM h]
    exact ⟨⟨⟨_, rfl⟩, hI⟩, rfl, fun z => absurd z (by decide)⟩
  · exact fin_W (g_withYear (th := th) hI hM hR)
theorem rel_withYear {S : SX} {T : SM} {n : Int64} {p0 p1 c9 : Int32} {n9 : Int64} {S9 : SX} (hR : Rel S T) (h9 : H_withYear S n p0 p1 c9 n9 S9) : Rel S9 (gX2_withYear T p0 p1).2 := (act_withYear hR h9).1
theorem cmp_withYear {S : SX} {T : SM} {n : Int64} {p0 p1 c9 : Int32} {n9 : Int64} {S9 : SX} (hR : Rel S T) (h9 : H_withYear S n p0 p1 c9 n9 S9) : fX2_thrown (gX2_withYear T p0 p1).2 = c9 ∧ (c9 = 0 → n9 = ((gX2_withYear T p0 p1).1).toInt64) := (act_withYear hR h9).2
theorem b1_withMonth {S : SX} {th p0 p1 : Int32} (h : ¬ (vp_in p0 6)) : gX2_withMonth (mkM th S) p0 p1 = ((0 : Int32), mkM 1 S) := by
  unfold gX2_withMonth
  rw [none_1 h]
  exact if_neg (frf_l1 _)
theorem b2_withMonth {S : SX} {th p0 p1 : Int32} (hM : vp_in p0 6) (h : ¬ ((¬ p1 < (1 : Int32) ∧ p1 ≤ (12 : Int32)))) : gX2_withMonth (mkM th S) p0 p1 = ((0 : Int32), mkM 2 S) := by
  unfold gX2_withMonth
  rw [none_0 hM, from_0 h]
  exact if_neg (by decide)
theorem g_withMonth {S : SX} {th p0 p1 : Int32} (hI : Inv S) (hM : vp_in p0 6) (hR : (¬ p1 < (1 : Int32) ∧ p1 ≤ (12 : Int32))) : GO 0 (gX2_withMonth (mkM th S) p0 p1) (gX0_withMonth S p0 p1) := by
  have e1 : gX2_withMonth (mkM th S) p0 p1 = gX2_becomeMonth (mkM 0 S) p0 ((xy S p0.toNatClampNeg).toInt64) p1 := by
    unfold gX2_withMonth; rw [none_0 hM, from_1 hR.1 hR.2]
    exact (if_pos (by decide)).trans peta
  have e0 : gX0_withMonth S p0 p1 = gX0_becomeMonth S p0 (xy S p0.toNatClampNeg) p1 := peta
  rw [e1, e0]
  exact becomeMonth_eq hI hM (oL rfl) (hI.at hM).1 (rg hR (by decide : (1 : Int32).toInt = 1) (by decide : (12 : Int32).toInt = 12))
theorem act_withMonth {S : SX} {T : SM} {n : Int64} {p0 p1 c9 : Int32} {n9 : Int64} {S9 : SX} (hR : Rel S T) (h9 : H_withMonth S n p0 p1 c9 n9 S9) : Rel S9 (gX2_withMonth T p0 p1).2 ∧ (fX2_thrown (gX2_withMonth T p0 p1).2 = c9 ∧ (c9 = 0 → n9 = ((gX2_withMonth T p0 p1).1).toInt64)) := by
  obtain ⟨⟨th, rfl⟩, hI⟩ := hR
  rcases h9 with ⟨h, e1, e2, e3⟩ | ⟨hM, h, e1, e2, e3⟩ | ⟨hM, hR, e1, e2, e3⟩
  all_goals (have e1 := e1.symm; have e2 := e2.symm; have e3 := e3.symm; subst e1; subst e2; subst e3)
  · rw [b1_withMonth h]
    exact ⟨⟨⟨_, rfl⟩, hI⟩, rfl, fun z => absurd z (by decide)⟩
  · rw [b2_withMonth hM h]
    exact ⟨⟨⟨_, rfl⟩, hI⟩, rfl, fun z => absurd z (by decide)⟩
  · exact fin_W (g_withMonth (th := th) hI hM hR)
