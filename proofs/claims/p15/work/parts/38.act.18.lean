theorem b1_between {S : SX} {th p0 p1 p2 : Int32} (h : ¬ (vp_in p0 6 ∧ vp_in p1 6)) : gX2_between (mkM th S) p0 p1 p2 = mkM 1 S := by
  unfold gX2_between
  by_cases h0 : vp_in p0 6
  · rw [none_0 h0, none_1 (fun z => h ⟨h0, z⟩)]
    exact (if_pos rfl).trans (if_neg (frf_l1 _))
  · rw [none_1 h0]
    exact if_neg (by decide)
theorem b2_between {S : SX} {th p0 p1 p2 : Int32} (hM : vp_in p0 6 ∧ vp_in p1 6) (h : ¬ ((¬ p2 < (0 : Int32) ∧ p2 ≤ (13 : Int32)))) : gX2_between (mkM th S) p0 p1 p2 = mkM 2 S := by
  unfold gX2_between
  rw [none_0 hM.1, none_0 hM.2, from_0 h]
  exact (if_pos rfl).trans (if_neg (by decide))
theorem g_between {S : SX} {th p0 p1 p2 : Int32} (hI : Inv S) (hM : vp_in p0 6 ∧ vp_in p1 6) (hR : (¬ p2 < (0 : Int32) ∧ p2 ≤ (13 : Int32))) : gX2_between (mkM th S) p0 p1 p2 = mkM 0 (gX0_between S p0 p1 p2) ∧ Inv (gX0_between S p0 p1 p2) := by
  have k := gap_eq (th := 0) (u := p2) hI hM.1 hM.2
  refine ⟨?_, k.2⟩
  unfold gX2_between; rw [none_0 hM.1, none_0 hM.2, from_1 hR.1 hR.2]
  exact ((if_pos rfl).trans (if_pos (by decide))).trans k.1
theorem act_between {S : SX} {T : SM} {n : Int64} {p0 p1 p2 c9 : Int32} {n9 : Int64} {S9 : SX} (hR : Rel S T) (h9 : H_between S n p0 p1 p2 c9 n9 S9) : Rel S9 (gX2_between T p0 p1 p2) := by
  obtain ⟨⟨th, rfl⟩, hI⟩ := hR
  rcases h9 with ⟨h, e1, e2, e3⟩ | ⟨hM, h, e1, e2, e3⟩ | ⟨hM, hR, e1, e2, e3⟩
  all_goals (have e1 := e1.symm; have e2 := e2.symm; have e3 := e3.symm; subst e1; subst e2; subst e3)
  · rw [b1_between h]
    exact ⟨⟨_, rfl⟩, hI⟩
  · rw [b2_between hM h]
    exact ⟨⟨_, rfl⟩, hI⟩
  · obtain ⟨e, i⟩ := g_between (th := th) hI hM hR
    rw [e]
    exact ⟨⟨0, rfl⟩, i⟩
theorem rel_between {S : SX} {T : SM} {n : Int64} {p0 p1 p2 c9 : Int32} {n9 : Int64} {S9 : SX} (hR : Rel S T) (h9 : H_between S n p0 p1 p2 c9 n9 S9) : Rel S9 (gX2_between T p0 p1 p2) := act_between hR h9
theorem b1_until {S : SX} {th p0 p1 p2 : Int32} (h : ¬ (vp_in p0 6 ∧ vp_in p1 6)) : gX2_until (mkM th S) p0 p1 p2 = mkM 1 S := by
  unfold gX2_until
  by_cases h0 : vp_in p0 6
  · rw [none_0 h0, none_1 (fun z => h ⟨h0, z⟩)]
    exact (if_pos rfl).trans (if_neg (frf_l1 _))
  · rw [none_1 h0]
    exact if_neg (by decide)
theorem b2_until {S : SX} {th p0 p1 p2 : Int32} (hM : vp_in p0 6 ∧ vp_in p1 6) (h : ¬ ((¬ p2 < (0 : Int32) ∧ p2 ≤ (13 : Int32)))) : gX2_until (mkM th S) p0 p1 p2 = mkM 2 S := by
  unfold gX2_until
  rw [none_0 hM.1, none_0 hM.2, from_0 h]
  exact (if_pos rfl).trans (if_neg (by decide))
theorem g_until {S : SX} {th p0 p1 p2 : Int32} (hI : Inv S) (hM : vp_in p0 6 ∧ vp_in p1 6) (hR : (¬ p2 < (0 : Int32) ∧ p2 ≤ (13 : Int32))) : gX2_until (mkM th S) p0 p1 p2 = mkM 0 (gX0_until S p0 p1 p2) ∧ Inv (gX0_until S p0 p1 p2) := by
  have k := gap_eq (th := 0) (u := p2) hI hM.1 hM.2
  refine ⟨?_, k.2⟩
  unfold gX2_until; rw [none_0 hM.1, none_0 hM.2, from_1 hR.1 hR.2]
  exact ((if_pos rfl).trans (if_pos (by decide))).trans k.1
theorem act_until {S : SX} {T : SM} {n : Int64} {p0 p1 p2 c9 : Int32} {n9 : Int64} {S9 : SX} (hR : Rel S T) (h9 : H_until S n p0 p1 p2 c9 n9 S9) : Rel S9 (gX2_until T p0 p1 p2) := by
  obtain ⟨⟨th, rfl⟩, hI⟩ := hR
  rcases h9 with ⟨h, e1, e2, e3⟩ | ⟨hM, h, e1, e2, e3⟩ | ⟨hM, hR, e1, e2, e3⟩
  all_goals (have e1 := e1.symm; have e2 := e2.symm; have e3 := e3.symm; subst e1; subst e2; subst e3)
  · rw [b1_until h]
    exact ⟨⟨_, rfl⟩, hI⟩
  · rw [b2_until hM h]
    exact ⟨⟨_, rfl⟩, hI⟩
  · obtain ⟨e, i⟩ := g_until (th := th) hI hM hR
    rw [e]
    exact ⟨⟨0, rfl⟩, i⟩
theorem rel_until {S : SX} {T : SM} {n : Int64} {p0 p1 p2 c9 : Int32} {n9 : Int64} {S9 : SX} (hR : Rel S T) (h9 : H_until S n p0 p1 p2 c9 n9 S9) : Rel S9 (gX2_until T p0 p1 p2) := act_until hR h9
theorem b2_hand {S : SX} {th p0 p1 p2 p3 : Int32} (h : ¬ ((¬ p0 < (0 : Int32) ∧ p0 ≤ (23 : Int32)) ∧ (¬ p1 < (0 : Int32) ∧ p1 ≤ (59 : Int32)) ∧ (¬ p2 < (0 : Int32) ∧ p2 ≤ (59 : Int32)) ∧ (¬ p3 < (0 : Int32) ∧ p3 ≤ (999999999 : Int32)))) : gX2_hand (mkM th S) p0 p1 p2 p3 = ((0 : Int32), mkM 1 S) := by
  unfold gX2_hand
  by_cases c0 : (¬ p0 < (0 : Int32) ∧ p0 ≤ (23 : Int32))
  case neg => rw [from_0 c0]; exact if_pos rfl
  rw [from_1 c0.1 c0.2]
  refine (if_neg (by decide)).trans ?_
  by_cases c1 : (¬ p1 < (0 : Int32) ∧ p1 ≤ (59 : Int32))
  case neg => rw [from_0 c1]; exact if_pos rfl
  rw [from_1 c1.1 c1.2]
  refine (if_neg (by decide)).trans ?_
  by_cases c2 : (¬ p2 < (0 : Int32) ∧ p2 ≤ (59 : Int32))
  case neg => rw [from_0 c2]; exact if_pos rfl
  rw [from_1 c2.1 c2.2]
  refine (if_neg (by decide)).trans ?_
  rw [from_0 (fun z => h ⟨c0, c1, c2, z⟩)]
  exact if_neg (by decide)
theorem g_hand {S : SX} {th p0 p1 p2 p3 : Int32} (hI : Inv S) (hR : (¬ p0 < (0 : Int32) ∧ p0 ≤ (23 : Int32)) ∧ (¬ p1 < (0 : Int32) ∧ p1 ≤ (59 : Int32)) ∧ (¬ p2 < (0 : Int32) ∧ p2 ≤ (59 : Int32)) ∧ (¬ p3 < (0 : Int32) ∧ p3 ≤ (999999999 : Int32))) : GO 0 (gX2_hand (mkM th S) p0 p1 p2 p3) (gX0_hand S p0 p1 p2 p3) := by
  have e1 : gX2_hand (mkM th S) p0 p1 p2 p3 = ((gX0_hand S p0 p1 p2 p3).1, mkM 0 (gX0_hand S p0 p1 p2 p3).2) := by
    unfold gX2_hand; rw [from_1 hR.1.1 hR.1.2, from_1 hR.2.1.1 hR.2.1.2, from_1 hR.2.2.1.1 hR.2.2.1.2, from_1 hR.2.2.2.1 hR.2.2.2.2]
    exact (if_neg (by decide)).trans ((if_neg (by decide)).trans ((if_neg (by decide)).trans (if_pos (by decide))))
  exact ⟨e1, hI.1, (rg hR.1 (by decide : (0 : Int32).toInt = 0) (by decide : (23 : Int32).toInt = 23)), (rg hR.2.1 (by decide : (0 : Int32).toInt = 0) (by decide : (59 : Int32).toInt = 59)), (rg hR.2.2.1 (by decide : (0 : Int32).toInt = 0) (by decide : (59 : Int32).toInt = 59)), (rg hR.2.2.2 (by decide : (0 : Int32).toInt = 0) (by decide : (999999999 : Int32).toInt = 999999999))⟩
