theorem cmp_withDayOfYear {S : SX} {T : SM} {n : Int64} {p0 p1 c9 : Int32} {n9 : Int64} {S9 : SX} (hR : Rel S T) (h9 : H_withDayOfYear S n p0 p1 c9 n9 S9) : fX2_thrown (gX2_withDayOfYear T p0 p1).2 = c9 ∧ (c9 = 0 → n9 = ((gX2_withDayOfYear T p0 p1).1).toInt64) := (act_withDayOfYear hR h9).2
theorem b1_withHour {S : SX} {th p0 p1 : Int32} (h : ¬ (vp_in p0 6)) : gX2_withHour (mkM th S) p0 p1 = ((0 : Int32), mkM 1 S) := by
  unfold gX2_withHour
  rw [none_1 h]
  exact if_neg (frf_l1 _)
theorem b2_withHour {S : SX} {th p0 p1 : Int32} (hM : vp_in p0 6) (h : ¬ ((¬ p1 < (0 : Int32) ∧ p1 ≤ (23 : Int32)))) : gX2_withHour (mkM th S) p0 p1 = ((0 : Int32), mkM 2 S) := by
  unfold gX2_withHour
  rw [none_0 hM, from_0 h]
  exact if_neg (by decide)
theorem g_withHour {S : SX} {th p0 p1 : Int32} (hI : Inv S) (hM : vp_in p0 6) (hR : (¬ p1 < (0 : Int32) ∧ p1 ≤ (23 : Int32))) : GO 0 (gX2_withHour (mkM th S) p0 p1) (gX0_withHour S p0 p1) := by
  obtain ⟨w1, w2⟩ := wh_eq (q := p1) (hI.N hM) (rg hR (by decide : (0 : Int32).toInt = 0) (by decide : (23 : Int32).toInt = 23))
  have e1 : gX2_withHour (mkM th S) p0 p1 = gX2_withPart (mkM 0 S) p0 (3600000000000 : Int64) (24 : Int64) (p1.toInt64) := by
    unfold gX2_withHour; rw [none_0 hM, from_1 hR.1 hR.2]
    exact (if_pos (by decide)).trans peta
  have e2 : gX2_withPart (mkM 0 S) p0 (3600000000000 : Int64) (24 : Int64) (p1.toInt64) = gX2_become (mkM 0 S) p0 (xy S p0.toNatClampNeg) (xm S p0.toNatClampNeg) (xd S p0.toNatClampNeg) (((((xN S p0.toNatClampNeg) / ((3600000000000 : Int64) * (24 : Int64))) * ((3600000000000 : Int64) * (24 : Int64))) + ((p1.toInt64) * (3600000000000 : Int64))) + ((xN S p0.toNatClampNeg) - (xN S p0.toNatClampNeg) / (3600000000000 : Int64) * (3600000000000 : Int64))) := peta
  have e0 : gX0_withHour S p0 p1 = gX0_becomeDate S p0 (xy S p0.toNatClampNeg) (xm S p0.toNatClampNeg) (xd S p0.toNatClampNeg) ((xN S p0.toNatClampNeg) + (((p1 - (fX0_hourOf (xN S p0.toNatClampNeg))).toInt64) * (3600000000000 : Int64))) := (peta (q := gX0_becomeAs S p0 p0 ((xN S p0.toNatClampNeg) + (((p1 - (fX0_hourOf (xN S p0.toNatClampNeg))).toInt64) * (3600000000000 : Int64))))).trans peta
  rw [e1, e2, e0, w1]
  exact become_eq hI hM (hI.at hM) w2
theorem act_withHour {S : SX} {T : SM} {n : Int64} {p0 p1 c9 : Int32} {n9 : Int64} {S9 : SX} (hR : Rel S T) (h9 : H_withHour S n p0 p1 c9 n9 S9) : Rel S9 (gX2_withHour T p0 p1).2 ∧ (fX2_thrown (gX2_withHour T p0 p1).2 = c9 ∧ (c9 = 0 → n9 = ((gX2_withHour T p0 p1).1).toInt64)) := by
  obtain ⟨⟨th, rfl⟩, hI⟩ := hR
  rcases h9 with ⟨h, e1, e2, e3⟩ | ⟨hM, h, e1, e2, e3⟩ | ⟨hM, hR, e1, e2, e3⟩
  all_goals (have e1 := e1.symm; have e2 := e2.symm; have e3 := e3.symm; subst e1; subst e2; subst e3)
  · rw [b1_withHour h]
    exact ⟨⟨⟨_, rfl⟩, hI⟩, rfl, fun z => absurd z (by decide)⟩
  · rw [b2_withHour hM h]
    exact ⟨⟨⟨_, rfl⟩, hI⟩, rfl, fun z => absurd z (by decide)⟩
  · exact fin_W (g_withHour (th := th) hI hM hR)
theorem rel_withHour {S : SX} {T : SM} {n : Int64} {p0 p1 c9 : Int32} {n9 : Int64} {S9 : SX} (hR : Rel S T) (h9 : H_withHour S n p0 p1 c9 n9 S9) : Rel S9 (gX2_withHour T p0 p1).2 := (act_withHour hR h9).1
theorem cmp_withHour {S : SX} {T : SM} {n : Int64} {p0 p1 c9 : Int32} {n9 : Int64} {S9 : SX} (hR : Rel S T) (h9 : H_withHour S n p0 p1 c9 n9 S9) : fX2_thrown (gX2_withHour T p0 p1).2 = c9 ∧ (c9 = 0 → n9 = ((gX2_withHour T p0 p1).1).toInt64) := (act_withHour hR h9).2
theorem b1_withMinute {S : SX} {th p0 p1 : Int32} (h : ¬ (vp_in p0 6)) : gX2_withMinute (mkM th S) p0 p1 = ((0 : Int32), mkM 1 S) := by
  unfold gX2_withMinute
  rw [none_1 h]
  exact if_neg (frf_l1 _)
theorem b2_withMinute {S : SX} {th p0 p1 : Int32} (hM : vp_in p0 6) (h : ¬ ((¬ p1 < (0 : Int32) ∧ p1 ≤ (59 : Int32)))) : gX2_withMinute (mkM th S) p0 p1 = ((0 : Int32), mkM 2 S) := by
  unfold gX2_withMinute
  rw [none_0 hM, from_0 h]
  exact if_neg (by decide)
theorem g_withMinute {S : SX} {th p0 p1 : Int32} (hI : Inv S) (hM : vp_in p0 6) (hR : (¬ p1 < (0 : Int32) ∧ p1 ≤ (59 : Int32))) : GO 0 (gX2_withMinute (mkM th S) p0 p1) (gX0_withMinute S p0 p1) := by
  obtain ⟨w1, w2⟩ := wm_eq (q := p1) (hI.N hM) (rg hR (by decide : (0 : Int32).toInt = 0) (by decide : (59 : Int32).toInt = 59))
  have e1 : gX2_withMinute (mkM th S) p0 p1 = gX2_withPart (mkM 0 S) p0 (60000000000 : Int64) (60 : Int64) (p1.toInt64) := by
    unfold gX2_withMinute; rw [none_0 hM, from_1 hR.1 hR.2]
    exact (if_pos (by decide)).trans peta
  have e2 : gX2_withPart (mkM 0 S) p0 (60000000000 : Int64) (60 : Int64) (p1.toInt64) = gX2_become (mkM 0 S) p0 (xy S p0.toNatClampNeg) (xm S p0.toNatClampNeg) (xd S p0.toNatClampNeg) (((((xN S p0.toNatClampNeg) / ((60000000000 : Int64) * (60 : Int64))) * ((60000000000 : Int64) * (60 : Int64))) + ((p1.toInt64) * (60000000000 : Int64))) + ((xN S p0.toNatClampNeg) - (xN S p0.toNatClampNeg) / (60000000000 : Int64) * (60000000000 : Int64))) := peta
  have e0 : gX0_withMinute S p0 p1 = gX0_becomeDate S p0 (xy S p0.toNatClampNeg) (xm S p0.toNatClampNeg) (xd S p0.toNatClampNeg) ((xN S p0.toNatClampNeg) + (((p1 - (fX0_minuteOf (xN S p0.toNatClampNeg))).toInt64) * (60000000000 : Int64))) := (peta (q := gX0_becomeAs S p0 p0 ((xN S p0.toNatClampNeg) + (((p1 - (fX0_minuteOf (xN S p0.toNatClampNeg))).toInt64) * (60000000000 : Int64))))).trans peta
  rw [e1, e2, e0, w1]
  exact become_eq hI hM (hI.at hM) w2
