theorem g_withNano {S : SX} {th p0 p1 : Int32} (hI : Inv S) (hM : vp_in p0 6) (hR : (¬ p1 < (0 : Int32) ∧ p1 ≤ (999999999 : Int32))) : GO 0 (gX2_withNano (mkM th S) p0 p1) (gX0_withNano S p0 p1) := by
  obtain ⟨w1, w2⟩ := wn_eq (q := p1) (hI.N hM) (rg hR (by decide : (0 : Int32).toInt = 0) (by decide : (999999999 : Int32).toInt = 999999999))
  have e1 : gX2_withNano (mkM th S) p0 p1 = gX2_withPart (mkM 0 S) p0 (1 : Int64) (1000000000 : Int64) (p1.toInt64) := by
    unfold gX2_withNano; rw [none_0 hM, from_1 hR.1 hR.2]
    exact (if_pos (by decide)).trans peta
  have e2 : gX2_withPart (mkM 0 S) p0 (1 : Int64) (1000000000 : Int64) (p1.toInt64) = gX2_become (mkM 0 S) p0 (xy S p0.toNatClampNeg) (xm S p0.toNatClampNeg) (xd S p0.toNatClampNeg) (((((xN S p0.toNatClampNeg) / ((1 : Int64) * (1000000000 : Int64))) * ((1 : Int64) * (1000000000 : Int64))) + ((p1.toInt64) * (1 : Int64))) + ((xN S p0.toNatClampNeg) - (xN S p0.toNatClampNeg) / (1 : Int64) * (1 : Int64))) := peta
  have e0 : gX0_withNano S p0 p1 = gX0_becomeDate S p0 (xy S p0.toNatClampNeg) (xm S p0.toNatClampNeg) (xd S p0.toNatClampNeg) (((xN S p0.toNatClampNeg) + (p1.toInt64)) - ((fX0_nanoOfSecond (xN S p0.toNatClampNeg)).toInt64)) := (peta (q := gX0_becomeAs S p0 p0 (((xN S p0.toNatClampNeg) + (p1.toInt64)) - ((fX0_nanoOfSecond (xN S p0.toNatClampNeg)).toInt64)))).trans peta
  rw [e1, e2, e0, w1]
  exact become_eq hI hM (hI.at hM) w2
theorem act_withNano {S : SX} {T : SM} {n : Int64} {p0 p1 c9 : Int32} {n9 : Int64} {S9 : SX} (hR : Rel S T) (h9 : H_withNano S n p0 p1 c9 n9 S9) : Rel S9 (gX2_withNano T p0 p1).2 ∧ (fX2_thrown (gX2_withNano T p0 p1).2 = c9 ∧ (c9 = 0 → n9 = ((gX2_withNano T p0 p1).1).toInt64)) := by
  obtain ⟨⟨th, rfl⟩, hI⟩ := hR
  rcases h9 with ⟨h, e1, e2, e3⟩ | ⟨hM, h, e1, e2, e3⟩ | ⟨hM, hR, e1, e2, e3⟩
  all_goals (have e1 := e1.symm; have e2 := e2.symm; have e3 := e3.symm; subst e1; subst e2; subst e3)
  · rw [b1_withNano h]
    exact ⟨⟨⟨_, rfl⟩, hI⟩, rfl, fun z => absurd z (by decide)⟩
  · rw [b2_withNano hM h]
    exact ⟨⟨⟨_, rfl⟩, hI⟩, rfl, fun z => absurd z (by decide)⟩
  · exact fin_W (g_withNano (th := th) hI hM hR)
theorem rel_withNano {S : SX} {T : SM} {n : Int64} {p0 p1 c9 : Int32} {n9 : Int64} {S9 : SX} (hR : Rel S T) (h9 : H_withNano S n p0 p1 c9 n9 S9) : Rel S9 (gX2_withNano T p0 p1).2 := (act_withNano hR h9).1
theorem cmp_withNano {S : SX} {T : SM} {n : Int64} {p0 p1 c9 : Int32} {n9 : Int64} {S9 : SX} (hR : Rel S T) (h9 : H_withNano S n p0 p1 c9 n9 S9) : fX2_thrown (gX2_withNano T p0 p1).2 = c9 ∧ (c9 = 0 → n9 = ((gX2_withNano T p0 p1).1).toInt64) := (act_withNano hR h9).2
theorem b1_truncate {S : SX} {th p0 p1 : Int32} (h : ¬ (vp_in p0 6)) : gX2_truncate (mkM th S) p0 p1 = ((0 : Int32), mkM 1 S) := by
  unfold gX2_truncate
  rw [none_1 h]
  exact if_neg (frf_l1 _)
theorem b2_truncate {S : SX} {th p0 p1 : Int32} (hM : vp_in p0 6) (h : ¬ ((¬ p1 < (0 : Int32) ∧ p1 ≤ (7 : Int32)))) : gX2_truncate (mkM th S) p0 p1 = ((0 : Int32), mkM 2 S) := by
  unfold gX2_truncate
  rw [none_0 hM, from_0 h]
  exact if_neg (by decide)
theorem g_truncate {S : SX} {th p0 p1 : Int32} (hI : Inv S) (hM : vp_in p0 6) (hR : (¬ p1 < (0 : Int32) ∧ p1 ≤ (7 : Int32))) : GO 0 (gX2_truncate (mkM th S) p0 p1) (gX0_truncate S p0 p1) := by
  have e1 : gX2_truncate (mkM th S) p0 p1 = gX2_become (mkM 0 S) p0 (xy S p0.toNatClampNeg) (xm S p0.toNatClampNeg) (xd S p0.toNatClampNeg) ((xN S p0.toNatClampNeg) - ((xN S p0.toNatClampNeg) - (xN S p0.toNatClampNeg) / fX2_nanosOf p1 * fX2_nanosOf p1)) := by
    unfold gX2_truncate; rw [none_0 hM, from_1 hR.1 hR.2]
    exact (if_pos (by decide)).trans peta
  have e0 : gX0_truncate S p0 p1 = gX0_becomeDate S p0 (xy S p0.toNatClampNeg) (xm S p0.toNatClampNeg) (xd S p0.toNatClampNeg) (fX0_cutNano (xN S p0.toNatClampNeg) p1) := (peta (q := gX0_becomeAs S p0 p0 (fX0_cutNano (xN S p0.toNatClampNeg) p1))).trans peta
  rw [e1, e0]
  obtain ⟨w1, w2⟩ := trunc_eq (u := p1) (hI.N hM) (rg hR (by decide : (0 : Int32).toInt = 0) (by decide : (7 : Int32).toInt = 7))
  rw [w1]
  exact become_eq hI hM (hI.at hM) w2
theorem act_truncate {S : SX} {T : SM} {n : Int64} {p0 p1 c9 : Int32} {n9 : Int64} {S9 : SX} (hR : Rel S T) (h9 : H_truncate S n p0 p1 c9 n9 S9) : Rel S9 (gX2_truncate T p0 p1).2 ∧ (fX2_thrown (gX2_truncate T p0 p1).2 = c9 ∧ (c9 = 0 → n9 = ((gX2_truncate T p0 p1).1).toInt64)) := by
  obtain ⟨⟨th, rfl⟩, hI⟩ := hR
  rcases h9 with ⟨h, e1, e2, e3⟩ | ⟨hM, h, e1, e2, e3⟩ | ⟨hM, hR, e1, e2, e3⟩
  all_goals (have e1 := e1.symm; have e2 := e2.symm; have e3 := e3.symm; subst e1; subst e2; subst e3)
  · rw [b1_truncate h]
    exact ⟨⟨⟨_, rfl⟩, hI⟩, rfl, fun z => absurd z (by decide)⟩
  · rw [b2_truncate hM h]
    exact ⟨⟨⟨_, rfl⟩, hI⟩, rfl, fun z => absurd z (by decide)⟩
  · exact fin_W (g_truncate (th := th) hI hM hR)
theorem rel_truncate {S : SX} {T : SM} {n : Int64} {p0 p1 c9 : Int32} {n9 : Int64} {S9 : SX} (hR : Rel S T) (h9 : H_truncate S n p0 p1 c9 n9 S9) : Rel S9 (gX2_truncate T p0 p1).2 := (act_truncate hR h9).1
theorem cmp_truncate {S : SX} {T : SM} {n : Int64} {p0 p1 c9 : Int32} {n9 : Int64} {S9 : SX} (hR : Rel S T) (h9 : H_truncate S n p0 p1 c9 n9 S9) : fX2_thrown (gX2_truncate T p0 p1).2 = c9 ∧ (c9 = 0 → n9 = ((gX2_truncate T p0 p1).1).toInt64) := (act_truncate hR h9).2
theorem b1_plusYears {S : SX} {th p0 p1 : Int32} (h : ¬ (vp_in p0 6)) : gX2_plusYears (mkM th S) p0 p1 = ((0 : Int32), mkM 1 S) := by
  unfold gX2_plusYears
  rw [none_1 h]
  exact if_neg (frf_l1 _)
theorem b2_plusYears {S : SX} {th p0 p1 : Int32} (hM : vp_in p0 6) (h : ¬ ((¬ p1 < (-100000000 : Int32) ∧ p1 ≤ (100000000 : Int32)))) : gX2_plusYears (mkM th S) p0 p1 = ((0 : Int32), mkM 2 S) := by
  unfold gX2_plusYears
  rw [none_0 hM, from_0 h]
  exact if_neg (by decide)
