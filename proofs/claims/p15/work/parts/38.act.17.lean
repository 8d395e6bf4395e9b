theorem act_isLeap {S : SX} {T : SM} {n : Int64} {p0 c9 : Int32} {n9 : Int64} {S9 : SX} (hR : Rel S T) (h9 : H_isLeap S n p0 c9 n9 S9) : Rel S9 (gX2_isLeap T p0).2 ∧ (fX2_thrown (gX2_isLeap T p0).2 = c9 ∧ (c9 = 0 → n9 = fz9 (gX2_isLeap T p0).1)) := by
  obtain ⟨⟨th, rfl⟩, hI⟩ := hR
  rcases h9 with ⟨h, e1, e2, e3⟩ | ⟨hM, e1, e2, e3⟩
  all_goals (have e1 := e1.symm; have e2 := e2.symm; have e3 := e3.symm; subst e1; subst e2; subst e3)
  · rw [b1_isLeap h]
    exact ⟨⟨⟨_, rfl⟩, hI⟩, rfl, fun z => absurd z (by decide)⟩
  · rw [g_isLeap (th := th) hI hM]
    exact ⟨⟨⟨0, rfl⟩, hI⟩, rfl, fun _ => rfl⟩
theorem rel_isLeap {S : SX} {T : SM} {n : Int64} {p0 c9 : Int32} {n9 : Int64} {S9 : SX} (hR : Rel S T) (h9 : H_isLeap S n p0 c9 n9 S9) : Rel S9 (gX2_isLeap T p0).2 := (act_isLeap hR h9).1
theorem cmp_isLeap {S : SX} {T : SM} {n : Int64} {p0 c9 : Int32} {n9 : Int64} {S9 : SX} (hR : Rel S T) (h9 : H_isLeap S n p0 c9 n9 S9) : fX2_thrown (gX2_isLeap T p0).2 = c9 ∧ (c9 = 0 → n9 = fz9 (gX2_isLeap T p0).1) := (act_isLeap hR h9).2
theorem b1_isSameAs {S : SX} {th p0 p1 : Int32} (h : ¬ (vp_in p0 6)) : gX2_isSameAs (mkM th S) p0 p1 = ((0 : Int32), mkM 1 S) := by
  unfold gX2_isSameAs
  rw [none_1 h]
  exact if_neg (frf_l1 _)
theorem b2_isSameAs {S : SX} {th p0 p1 : Int32} (hM : vp_in p0 6) (h : ¬ ((¬ p1 < (0 : Int32) ∧ p1 ≤ (4 : Int32)))) : gX2_isSameAs (mkM th S) p0 p1 = ((0 : Int32), mkM 2 S) := by
  unfold gX2_isSameAs
  rw [none_0 hM, from_0 h]
  exact if_neg (by decide)
theorem g_isSameAs {S : SX} {th p0 p1 : Int32} (hI : Inv S) (hM : vp_in p0 6) (hR : (¬ p1 < (0 : Int32) ∧ p1 ≤ (4 : Int32))) : gX2_isSameAs (mkM th S) p0 p1 = (fX0_isSameAs S p0 p1, mkM 0 S) := by
  have r := (rg hR (by decide : (0 : Int32).toInt = 0) (by decide : (4 : Int32).toInt = 4))
  unfold gX2_isSameAs; rw [none_0 hM, from_1 hR.1 hR.2]
  refine (if_pos (by decide)).trans ?_
  rw [sameAs_eq hI hM r]
  by_cases c : p1 ≤ (2 : Int32)
  · rw [if_pos c, if_pos c]; rfl
  · rw [if_neg c, if_neg c]; rfl
theorem act_isSameAs {S : SX} {T : SM} {n : Int64} {p0 p1 c9 : Int32} {n9 : Int64} {S9 : SX} (hR : Rel S T) (h9 : H_isSameAs S n p0 p1 c9 n9 S9) : Rel S9 (gX2_isSameAs T p0 p1).2 ∧ (fX2_thrown (gX2_isSameAs T p0 p1).2 = c9 ∧ (c9 = 0 → n9 = fz9 (gX2_isSameAs T p0 p1).1)) := by
  obtain ⟨⟨th, rfl⟩, hI⟩ := hR
  rcases h9 with ⟨h, e1, e2, e3⟩ | ⟨hM, h, e1, e2, e3⟩ | ⟨hM, hR, e1, e2, e3⟩
  all_goals (have e1 := e1.symm; have e2 := e2.symm; have e3 := e3.symm; subst e1; subst e2; subst e3)
  · rw [b1_isSameAs h]
    exact ⟨⟨⟨_, rfl⟩, hI⟩, rfl, fun z => absurd z (by decide)⟩
  · rw [b2_isSameAs hM h]
    exact ⟨⟨⟨_, rfl⟩, hI⟩, rfl, fun z => absurd z (by decide)⟩
  · rw [g_isSameAs (th := th) hI hM hR]
    exact ⟨⟨⟨0, rfl⟩, hI⟩, rfl, fun _ => rfl⟩
theorem rel_isSameAs {S : SX} {T : SM} {n : Int64} {p0 p1 c9 : Int32} {n9 : Int64} {S9 : SX} (hR : Rel S T) (h9 : H_isSameAs S n p0 p1 c9 n9 S9) : Rel S9 (gX2_isSameAs T p0 p1).2 := (act_isSameAs hR h9).1
theorem cmp_isSameAs {S : SX} {T : SM} {n : Int64} {p0 p1 c9 : Int32} {n9 : Int64} {S9 : SX} (hR : Rel S T) (h9 : H_isSameAs S n p0 p1 c9 n9 S9) : fX2_thrown (gX2_isSameAs T p0 p1).2 = c9 ∧ (c9 = 0 → n9 = fz9 (gX2_isSameAs T p0 p1).1) := (act_isSameAs hR h9).2
theorem b1_nanoOfDay {S : SX} {th p0 : Int32} (h : ¬ (vp_in p0 6)) : gX2_nanoOfDay (mkM th S) p0 = mkM 1 S := by
  unfold gX2_nanoOfDay
  rw [none_1 h]
  exact if_neg (frf_l1 _)
theorem g_nanoOfDay {S : SX} {th p0 : Int32} (hI : Inv S) (hM : vp_in p0 6) : gX2_nanoOfDay (mkM th S) p0 = mkM 0 (gX0_nanoOfDay S p0) ∧ Inv (gX0_nanoOfDay S p0) := by
  refine ⟨?_, hI⟩
  unfold gX2_nanoOfDay; rw [none_0 hM]
  exact if_pos (by decide)
theorem act_nanoOfDay {S : SX} {T : SM} {n : Int64} {p0 c9 : Int32} {n9 : Int64} {S9 : SX} (hR : Rel S T) (h9 : H_nanoOfDay S n p0 c9 n9 S9) : Rel S9 (gX2_nanoOfDay T p0) := by
  obtain ⟨⟨th, rfl⟩, hI⟩ := hR
  rcases h9 with ⟨h, e1, e2, e3⟩ | ⟨hM, e1, e2, e3⟩
  all_goals (have e1 := e1.symm; have e2 := e2.symm; have e3 := e3.symm; subst e1; subst e2; subst e3)
  · rw [b1_nanoOfDay h]
    exact ⟨⟨_, rfl⟩, hI⟩
  · obtain ⟨e, i⟩ := g_nanoOfDay (th := th) hI hM
    rw [e]
    exact ⟨⟨0, rfl⟩, i⟩
theorem rel_nanoOfDay {S : SX} {T : SM} {n : Int64} {p0 c9 : Int32} {n9 : Int64} {S9 : SX} (hR : Rel S T) (h9 : H_nanoOfDay S n p0 c9 n9 S9) : Rel S9 (gX2_nanoOfDay T p0) := act_nanoOfDay hR h9
theorem b1_field {S : SX} {th p0 p1 : Int32} (h : ¬ (vp_in p0 6)) : gX2_field (mkM th S) p0 p1 = mkM 1 S := by
  unfold gX2_field
  rw [none_1 h]
  exact if_neg (frf_l1 _)
theorem b2_field {S : SX} {th p0 p1 : Int32} (hM : vp_in p0 6) (h : ¬ ((¬ p1 < (0 : Int32) ∧ p1 ≤ (27 : Int32)))) : gX2_field (mkM th S) p0 p1 = mkM 2 S := by
  unfold gX2_field
  rw [none_0 hM, from_0 h]
  exact if_neg (by decide)
theorem g_field {S : SX} {th p0 p1 : Int32} (hI : Inv S) (hM : vp_in p0 6) (hR : (¬ p1 < (0 : Int32) ∧ p1 ≤ (27 : Int32))) : gX2_field (mkM th S) p0 p1 = mkM 0 (gX0_field S p0 p1) ∧ Inv (gX0_field S p0 p1) := by
  have e : gX0_field S p0 p1 = S := ite_self _
  rw [e]
  refine ⟨?_, hI⟩
  unfold gX2_field; rw [none_0 hM, from_1 hR.1 hR.2]
  exact (if_pos (by decide)).trans (ite_self _)
theorem act_field {S : SX} {T : SM} {n : Int64} {p0 p1 c9 : Int32} {n9 : Int64} {S9 : SX} (hR : Rel S T) (h9 : H_field S n p0 p1 c9 n9 S9) : Rel S9 (gX2_field T p0 p1) := by
  obtain ⟨⟨th, rfl⟩, hI⟩ := hR
  rcases h9 with ⟨h, e1, e2, e3⟩ | ⟨hM, h, e1, e2, e3⟩ | ⟨hM, hR, e1, e2, e3⟩
  all_goals (have e1 := e1.symm; have e2 := e2.symm; have e3 := e3.symm; subst e1; subst e2; subst e3)
  · rw [b1_field h]
    exact ⟨⟨_, rfl⟩, hI⟩
  · rw [b2_field hM h]
    exact ⟨⟨_, rfl⟩, hI⟩
  · obtain ⟨e, i⟩ := g_field (th := th) hI hM hR
    rw [e]
    exact ⟨⟨0, rfl⟩, i⟩
theorem rel_field {S : SX} {T : SM} {n : Int64} {p0 p1 c9 : Int32} {n9 : Int64} {S9 : SX} (hR : Rel S T) (h9 : H_field S n p0 p1 c9 n9 S9) : Rel S9 (gX2_field T p0 p1) := act_field hR h9
