theorem rel_withMonth {S : SX} {T : SM} {n : Int64} {p0 p1 c9 : Int32} {n9 : Int64} {S9 : SX} (hR : Rel S T) (h9 : H_withMonth S n p0 p1 c9 n9 S9) : Rel S9 (gX2_withMonth T p0 p1).2 := (act_withMonth hR h9).1
theorem cmp_withMonth {S : SX} {T : SM} {n : Int64} {p0 p1 c9 : Int32} {n9 : Int64} {S9 : SX} (hR : Rel S T) (h9 : H_withMonth S n p0 p1 c9 n9 S9) : fX2_thrown (gX2_withMonth T p0 p1).2 = c9 ∧ (c9 = 0 → n9 = ((gX2_withMonth T p0 p1).1).toInt64) := (act_withMonth hR h9).2
theorem b1_withDayOfMonth {S : SX} {th p0 p1 : Int32} (h : ¬ (vp_in p0 6)) : gX2_withDayOfMonth (mkM th S) p0 p1 = ((0 : Int32), mkM 1 S) := by
  unfold gX2_withDayOfMonth
  rw [none_1 h]
  exact if_neg (frf_l1 _)
theorem b2_withDayOfMonth {S : SX} {th p0 p1 : Int32} (hM : vp_in p0 6) (h : ¬ ((¬ p1 < (1 : Int32) ∧ p1 ≤ (31 : Int32)))) : gX2_withDayOfMonth (mkM th S) p0 p1 = ((0 : Int32), mkM 2 S) := by
  unfold gX2_withDayOfMonth
  rw [none_0 hM, from_0 h]
  exact if_neg (by decide)
theorem g_withDayOfMonth {S : SX} {th p0 p1 : Int32} (hI : Inv S) (hM : vp_in p0 6) (hR : (¬ p1 < (1 : Int32) ∧ p1 ≤ (31 : Int32))) : GO 0 (gX2_withDayOfMonth (mkM th S) p0 p1) (gX0_withDayOfMonth S p0 p1) := by
  have hv := hI.at hM
  have e0 : gX0_withDayOfMonth S p0 p1 = gX0_becomeDate S p0 (xy S p0.toNatClampNeg) (xm S p0.toNatClampNeg) p1 (xN S p0.toNatClampNeg) := peta
  rw [e0]
  unfold gX2_withDayOfMonth; rw [none_0 hM, from_1 hR.1 hR.2]
  refine GO.of (if_pos (by decide)) ?_
  have hl : fX2_daysOf (my (mkM th S) p0.toNatClampNeg) (mm (mkM th S) p0.toNatClampNeg) = fX0_monthLength (xy S p0.toNatClampNeg) (xm S p0.toNatClampNeg) := len_eq hv.2.1
  rw [hl]
  by_cases c : p1 ≤ fX0_monthLength (xy S p0.toNatClampNeg) (xm S p0.toNatClampNeg)
  · refine GO.of ((if_pos c).trans peta) ?_
    exact become_eq (th := 0) hI hM ⟨hv.1, hv.2.1, (rg hR (by decide : (1 : Int32).toInt = 1) (by decide : (31 : Int32).toInt = 31)).1, c⟩ (hI.N hM)
  · refine GO.of ((if_neg c).trans peta) ?_
    have e2 : gX0_becomeDate S p0 (xy S p0.toNatClampNeg) (xm S p0.toNatClampNeg) p1 (xN S p0.toNatClampNeg) = gX0_refuse S := (if_neg c).trans peta
    rw [e2]
    exact refuse_eq (th := 0) hI
theorem act_withDayOfMonth {S : SX} {T : SM} {n : Int64} {p0 p1 c9 : Int32} {n9 : Int64} {S9 : SX} (hR : Rel S T) (h9 : H_withDayOfMonth S n p0 p1 c9 n9 S9) : Rel S9 (gX2_withDayOfMonth T p0 p1).2 ∧ (fX2_thrown (gX2_withDayOfMonth T p0 p1).2 = c9 ∧ (c9 = 0 → n9 = ((gX2_withDayOfMonth T p0 p1).1).toInt64)) := by
  obtain ⟨⟨th, rfl⟩, hI⟩ := hR
  rcases h9 with ⟨h, e1, e2, e3⟩ | ⟨hM, h, e1, e2, e3⟩ | ⟨hM, hR, e1, e2, e3⟩
  all_goals (have e1 := e1.symm; have e2 := e2.symm; have e3 := e3.symm; subst e1; subst e2; subst e3)
  · rw [b1_withDayOfMonth h]
    exact ⟨⟨⟨_, rfl⟩, hI⟩, rfl, fun z => absurd z (by decide)⟩
  · rw [b2_withDayOfMonth hM h]
    exact ⟨⟨⟨_, rfl⟩, hI⟩, rfl, fun z => absurd z (by decide)⟩
  · exact fin_W (g_withDayOfMonth (th := th) hI hM hR)
theorem rel_withDayOfMonth {S : SX} {T : SM} {n : Int64} {p0 p1 c9 : Int32} {n9 : Int64} {S9 : SX} (hR : Rel S T) (h9 : H_withDayOfMonth S n p0 p1 c9 n9 S9) : Rel S9 (gX2_withDayOfMonth T p0 p1).2 := (act_withDayOfMonth hR h9).1
theorem cmp_withDayOfMonth {S : SX} {T : SM} {n : Int64} {p0 p1 c9 : Int32} {n9 : Int64} {S9 : SX} (hR : Rel S T) (h9 : H_withDayOfMonth S n p0 p1 c9 n9 S9) : fX2_thrown (gX2_withDayOfMonth T p0 p1).2 = c9 ∧ (c9 = 0 → n9 = ((gX2_withDayOfMonth T p0 p1).1).toInt64) := (act_withDayOfMonth hR h9).2
theorem b1_withDayOfYear {S : SX} {th p0 p1 : Int32} (h : ¬ (vp_in p0 6)) : gX2_withDayOfYear (mkM th S) p0 p1 = ((0 : Int32), mkM 1 S) := by
  unfold gX2_withDayOfYear
  rw [none_1 h]
  exact if_neg (frf_l1 _)
theorem b2_withDayOfYear {S : SX} {th p0 p1 : Int32} (hM : vp_in p0 6) (h : ¬ ((¬ p1 < (1 : Int32) ∧ p1 ≤ (366 : Int32)))) : gX2_withDayOfYear (mkM th S) p0 p1 = ((0 : Int32), mkM 2 S) := by
  unfold gX2_withDayOfYear
  rw [none_0 hM, from_0 h]
  exact if_neg (by decide)
theorem g_withDayOfYear {S : SX} {th p0 p1 : Int32} (hI : Inv S) (hM : vp_in p0 6) (hR : (¬ p1 < (1 : Int32) ∧ p1 ≤ (366 : Int32))) : GO 0 (gX2_withDayOfYear (mkM th S) p0 p1) (gX0_withDayOfYear S p0 p1) := by
  have hv := hI.at hM
  unfold gX2_withDayOfYear gX0_withDayOfYear; rw [none_0 hM, from_1 hR.1 hR.2]
  refine GO.of (if_pos (by decide)) ?_
  have hl : fX2_daysOf_ (my (mkM th S) p0.toNatClampNeg) = fX0_yearLength (xy S p0.toNatClampNeg) := ylen_eq _
  rw [hl]
  by_cases c : p1 ≤ fX0_yearLength (xy S p0.toNatClampNeg)
  · rw [if_pos c, if_pos c]
    have ed : (((fX2_dayOf (my (mkM th S) p0.toNatClampNeg) (1 : Int32) (1 : Int32)) + (p1.toInt64)) - (1 : Int64)) = (((fX0_firstDayOf (xy S p0.toNatClampNeg)) + (p1.toInt64)) - (1 : Int64)) := by
      have := first_1 hv.1
      exact congrArg (fun z => (z + p1.toInt64) - (1 : Int64)) this
    rw [ed]
    exact becomeDay_eq (th := 0) hI hM (hI.N hM)
  · rw [if_neg c, if_neg c]
    exact refuse_eq (th := 0) hI
theorem act_withDayOfYear {S : SX} {T : SM} {n : Int64} {p0 p1 c9 : Int32} {n9 : Int64} {S9 : SX} (hR : Rel S T) (h9 : H_withDayOfYear S n p0 p1 c9 n9 S9) : Rel S9 (gX2_withDayOfYear T p0 p1).2 ∧ (fX2_thrown (gX2_withDayOfYear T p0 p1).2 = c9 ∧ (c9 = 0 → n9 = ((gX2_withDayOfYear T p0 p1).1).toInt64)) := by
  obtain ⟨⟨th, rfl⟩, hI⟩ := hR
  rcases h9 with ⟨h, e1, e2, e3⟩ | ⟨hM, h, e1, e2, e3⟩ | ⟨hM, hR, e1, e2, e3⟩
  all_goals (have e1 := e1.symm; have e2 := e2.symm; have e3 := e3.symm; subst e1; subst e2; subst e3)
  · rw [b1_withDayOfYear h]
    exact ⟨⟨⟨_, rfl⟩, hI⟩, rfl, fun z => absurd z (by decide)⟩
  · rw [b2_withDayOfYear hM h]
    exact ⟨⟨⟨_, rfl⟩, hI⟩, rfl, fun z => absurd z (by decide)⟩
  · exact fin_W (g_withDayOfYear (th := th) hI hM hR)
theorem rel_withDayOfYear {S : SX} {T : SM} {n : Int64} {p0 p1 c9 : Int32} {n9 : Int64} {S9 : SX} (hR : Rel S T) (h9 : H_withDayOfYear S n p0 p1 c9 n9 S9) : Rel S9 (gX2_withDayOfYear T p0 p1).2 := (act_withDayOfYear hR h9).1
