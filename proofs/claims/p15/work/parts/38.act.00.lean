theorem b1_of {S : SX} {th p0 p1 p2 p3 p4 : Int32} (h : ¬ (vp_in p0 6)) : gX2_of (mkM th S) p0 p1 p2 p3 p4 = ((0 : Int32), mkM 1 S) := by
  unfold gX2_of
  rw [none_1 h]
  repeat (first | exact if_neg (frf_l1 _) | (refine ite_both ?_ ?_; rfl))
theorem b2_of {S : SX} {th p0 p1 p2 p3 p4 : Int32} (hM : vp_in p0 6) (h : ¬ ((¬ p1 < (-9999 : Int32) ∧ p1 ≤ (9999 : Int32)) ∧ (¬ p2 < (1 : Int32) ∧ p2 ≤ (12 : Int32)) ∧ (¬ p3 < (1 : Int32) ∧ p3 ≤ (31 : Int32)) ∧ (¬ p4 < (0 : Int32) ∧ p4 ≤ (6 : Int32)))) : gX2_of (mkM th S) p0 p1 p2 p3 p4 = ((0 : Int32), mkM 2 S) := by
  unfold gX2_of
  rw [none_0 hM]
  by_cases c0 : (¬ p1 < (-9999 : Int32) ∧ p1 ≤ (9999 : Int32))
  case neg => rw [from_0 c0]; exact if_pos rfl
  rw [from_1 c0.1 c0.2]
  refine (if_neg (by decide)).trans ?_
  by_cases c1 : (¬ p2 < (1 : Int32) ∧ p2 ≤ (12 : Int32))
  case neg => rw [from_0 c1]; exact if_pos rfl
  rw [from_1 c1.1 c1.2]
  refine (if_neg (by decide)).trans ?_
  by_cases c2 : (¬ p3 < (1 : Int32) ∧ p3 ≤ (31 : Int32))
  case neg => rw [from_0 c2]; exact if_pos rfl
  rw [from_1 c2.1 c2.2]
  refine (if_neg (by decide)).trans ?_
  rw [from_0 (fun z => h ⟨c0, c1, c2, z⟩)]
  exact if_neg (by decide)
theorem g_of {S : SX} {th p0 p1 p2 p3 p4 : Int32} (hI : Inv S) (hM : vp_in p0 6) (hR : (¬ p1 < (-9999 : Int32) ∧ p1 ≤ (9999 : Int32)) ∧ (¬ p2 < (1 : Int32) ∧ p2 ≤ (12 : Int32)) ∧ (¬ p3 < (1 : Int32) ∧ p3 ≤ (31 : Int32)) ∧ (¬ p4 < (0 : Int32) ∧ p4 ≤ (6 : Int32))) : GO 0 (gX2_of (mkM th S) p0 p1 p2 p3 p4) (gX0_of S p0 p1 p2 p3 p4) := by
  obtain ⟨k6, kn, kT⟩ := hand_go (th := 0) hI (rg hR.2.2.2 (by decide : (0 : Int32).toInt = 0) (by decide : (6 : Int32).toInt = 6))
  have hm : MN p2 := (rg hR.2.1 (by decide : (1 : Int32).toInt = 1) (by decide : (12 : Int32).toInt = 12))
  have hd := (rg hR.2.2.1 (by decide : (1 : Int32).toInt = 1) (by decide : (31 : Int32).toInt = 31))
  have e0 : gX0_of S p0 p1 p2 p3 p4 = gX0_becomeDate S p0 p1 p2 p3 (fX0_handTime S p4) := peta
  rw [e0]
  unfold gX2_of; rw [none_0 hM, from_1 hR.1.1 hR.1.2, from_1 hR.2.1.1 hR.2.1.2, from_1 hR.2.2.1.1 hR.2.2.1.2, from_1 hR.2.2.2.1 hR.2.2.2.2, len_eq hm]
  refine GO.of ((if_neg (by decide)).trans ((if_neg (by decide)).trans ((if_neg (by decide)).trans (if_pos (by decide))))) ?_
  by_cases c : p3 ≤ fX0_monthLength p1 p2
  · refine GO.of (if_pos c) ?_
    have hv : DV p1 p2 p3 := ⟨(rg hR.1 (by decide : (-9999 : Int32).toInt = -9999) (by decide : (9999 : Int32).toInt = 9999)), hm, hd.1, c⟩
    by_cases c6 : p4 = 6
    · refine GO.of ((if_pos c6).trans peta) ?_
      have := become_eq (th := 0) hI hM hv kT
      rw [← k6 c6] at this ⊢
      exact this
    · refine GO.of ((if_neg c6).trans peta) ?_
      have := become_eq (th := 0) hI hM hv kT
      rw [← kn c6] at this ⊢
      exact this
  · refine GO.of ((if_neg c).trans peta) ?_
    have e2 : gX0_becomeDate S p0 p1 p2 p3 (fX0_handTime S p4) = gX0_refuse S := (if_neg c).trans peta
    rw [e2]
    exact refuse_eq (th := 0) hI
theorem act_of {S : SX} {T : SM} {n : Int64} {p0 p1 p2 p3 p4 c9 : Int32} {n9 : Int64} {S9 : SX} (hR : Rel S T) (h9 : H_of S n p0 p1 p2 p3 p4 c9 n9 S9) : Rel S9 (gX2_of T p0 p1 p2 p3 p4).2 ∧ (fX2_thrown (gX2_of T p0 p1 p2 p3 p4).2 = c9 ∧ (c9 = 0 → n9 = ((gX2_of T p0 p1 p2 p3 p4).1).toInt64)) := by
  obtain ⟨⟨th, rfl⟩, hI⟩ := hR
  rcases h9 with ⟨h, e1, e2, e3⟩ | ⟨hM, h, e1, e2, e3⟩ | ⟨hM, hR, e1, e2, e3⟩
  all_goals (have e1 := e1.symm; have e2 := e2.symm; have e3 := e3.symm; subst e1; subst e2; subst e3)
  · rw [b1_of h]
    exact ⟨⟨⟨_, rfl⟩, hI⟩, rfl, fun z => absurd z (by decide)⟩
  · rw [b2_of hM h]
    exact ⟨⟨⟨_, rfl⟩, hI⟩, rfl, fun z => absurd z (by decide)⟩
  · exact fin_W (g_of (th := th) hI hM hR)
theorem rel_of {S : SX} {T : SM} {n : Int64} {p0 p1 p2 p3 p4 c9 : Int32} {n9 : Int64} {S9 : SX} (hR : Rel S T) (h9 : H_of S n p0 p1 p2 p3 p4 c9 n9 S9) : Rel S9 (gX2_of T p0 p1 p2 p3 p4).2 := (act_of hR h9).1
theorem cmp_of {S : SX} {T : SM} {n : Int64} {p0 p1 p2 p3 p4 c9 : Int32} {n9 : Int64} {S9 : SX} (hR : Rel S T) (h9 : H_of S n p0 p1 p2 p3 p4 c9 n9 S9) : fX2_thrown (gX2_of T p0 p1 p2 p3 p4).2 = c9 ∧ (c9 = 0 → n9 = ((gX2_of T p0 p1 p2 p3 p4).1).toInt64) := (act_of hR h9).2
theorem b1_ofDay {S : SX} {th p0 p1 : Int32} (h : ¬ (vp_in p0 6)) : gX2_ofDay (mkM th S) p0 p1 = ((0 : Int32), mkM 1 S) := by
  unfold gX2_ofDay
  rw [none_1 h]
  exact if_neg (frf_l1 _)
theorem b2_ofDay {S : SX} {th p0 p1 : Int32} (hM : vp_in p0 6) (h : ¬ ((¬ p1 < (-10000000 : Int32) ∧ p1 ≤ (10000000 : Int32)))) : gX2_ofDay (mkM th S) p0 p1 = ((0 : Int32), mkM 2 S) := by
  unfold gX2_ofDay
  rw [none_0 hM, from_0 h]
  exact if_neg (by decide)
theorem g_ofDay {S : SX} {th p0 p1 : Int32} (hI : Inv S) (hM : vp_in p0 6) (hR : (¬ p1 < (-10000000 : Int32) ∧ p1 ≤ (10000000 : Int32))) : GO 0 (gX2_ofDay (mkM th S) p0 p1) (gX0_ofDay S p0 p1) := by
  have e1 : gX2_ofDay (mkM th S) p0 p1 = gX2_becomeDay (mkM 0 S) p0 (p1.toInt64) (fX2_handTime (mkM 0 S) (2 : Int32)) := by
    unfold gX2_ofDay; rw [none_0 hM, from_1 hR.1 hR.2]
    exact (if_pos (by decide)).trans peta
  have e0 : gX0_ofDay S p0 p1 = gX0_becomeDay S p0 (p1.toInt64) (fX0_handTime S (2 : Int32)) := peta
  rw [e1, e0]
  obtain ⟨k6, kn, kT⟩ := hand_go (th := 0) (u := 2) hI (by decide)
  have k := kn (by decide)
  rw [show ((2 : Int32) - (2 : Int32) / (3 : Int32) * (3 : Int32)) = 2 from by decide] at k
  rw [k]
  exact becomeDay_eq hI hM kT
