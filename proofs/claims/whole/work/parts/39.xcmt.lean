theorem tf_eq {S : SX} {th : Int32} (hI : Inv S) {i f : Int32} (hi : vp_in i 6) : fX2_ofTime (mkM th S) i f = fX0_timeField (xN S i.toNatClampNeg) f := by
  have h := hI.N hi
  have e5 : fX2_nanosOf (5 : Int32) = (3600000000000 : Int64) := by decide +kernel
  have e4 : fX2_nanosOf (4 : Int32) = (60000000000 : Int64) := by decide +kernel
  have h5 : fX2_part (mkM th S) i (3600000000000 : Int64) (24 : Int64) = fX0_hourOf (xN S i.toNatClampNeg) := hour_eq h
  have h4 : fX2_part (mkM th S) i (60000000000 : Int64) (60 : Int64) = fX0_minuteOf (xN S i.toNatClampNeg) := minute_eq h
  have h3 : fX2_part (mkM th S) i (1000000000 : Int64) (60 : Int64) = fX0_secondOf (xN S i.toNatClampNeg) := second_eq h
  have em : mt (mkM th S) i.toNatClampNeg = xN S i.toNatClampNeg := rfl
  unfold fX2_ofTime fX0_timeField
  rw [e5, e4, h5, h4, h3, em]
  generalize xN S i.toNatClampNeg = N at h ⊢
  have hn := nano_int h
  have b0 : 0 ≤ N.toInt % 1000000000 := Int.emod_nonneg _ (by decide)
  have n0 : N - N / (1000000000 : Int64) * (1000000000 : Int64) = (fX0_nanoOfSecond N).toInt64 := eqL (rL (x := N) rfl l1e9 h.1 (by decide)) (oL hn)
  have n2 : (fX0_nanoOfSecond N).toInt64 / (1000 : Int64) = ((fX0_nanoOfSecond N) / (1000 : Int32)).toInt64 := eqL (dL (oL hn) (show (1000 : Int64).toInt = 1000 from by decide) b0 (by decide)) (oL (dI hn (show (1000 : Int32).toInt = 1000 from by decide) b0 (by decide)))
  have n4 : (fX0_nanoOfSecond N).toInt64 / (1000000 : Int64) = ((fX0_nanoOfSecond N) / (1000000 : Int32)).toInt64 := eqL (dL (oL hn) (show (1000000 : Int64).toInt = 1000000 from by decide) b0 (by decide)) (oL (dI hn (show (1000000 : Int32).toInt = 1000000 from by decide) b0 (by decide)))
  rw [n0, n2, n4]
theorem df_eq {S : SX} {th : Int32} (hI : Inv S) {i f : Int32} (hi : vp_in i 6) : fX2_ofDate (mkM th S) i f = fX0_dateField S i f := by
  have e1 : fX2_inYearNow (mkM th S) i = fX0_yearDay S i := in_eq (hI.at hi).2.1
  unfold fX2_ofDate fX0_dateField
  rw [wkn_eq hI hi, e1, dayNow_eq hI hi, Int32.sub_add_cancel, Int32.sub_add_cancel]
  rfl
theorem mon_eq {S : SX} {th : Int32} (hI : Inv S) {i j : Int32} (hi : vp_in i 6) (hj : vp_in j 6) : fX2_monthsOn (mkM th S) i j = fX0_wholeMonths S i j := by
  obtain ⟨a1, a2⟩ := mc_int hI hi
  obtain ⟨b1, b2⟩ := mc_int hI hj
  have ya := (hI.at hi).1
  have yb := (hI.at hj).1
  have ma := (hI.at hi).2.1
  have mb := (hI.at hj).2.1
  unfold YR at ya yb
  unfold MN at ma mb
  have t12 : (12 : Int64).toInt = 12 := by decide
  have e : (((12 : Int64) * (((xy S j.toNatClampNeg) - (xy S i.toNatClampNeg)).toInt64)) + ((xm S j.toNatClampNeg).toInt64)) - ((xm S i.toNatClampNeg).toInt64) = (fX0_monthCount S j) - (fX0_monthCount S i) := by
    have s0 := sI (x := xy S j.toNatClampNeg) (y := xy S i.toNatClampNeg) rfl rfl (by omega)
    have s1 := sL (aL (mL t12 (oL s0) (by omega)) (oL (x := xm S j.toNatClampNeg) rfl) (by omega)) (oL (x := xm S i.toNatClampNeg) rfl) (by omega)
    exact eqL s1 ((sL b1 a1 (by omega)).trans (by omega))
  have ey : ∀ k, my (mkM th S) k = xy S k := fun _ => rfl
  have e2 : ∀ k, mm (mkM th S) k = xm S k := fun _ => rfl
  have e3 : ∀ k, md (mkM th S) k = xd S k := fun _ => rfl
  have e4 : ∀ k, mt (mkM th S) k = xN S k := fun _ => rfl
  unfold fX2_monthsOn fX0_wholeMonths
  simp only [ey, e2, e3, e4, e]
theorem lineU_eq {S : SX} {th : Int32} (hI : Inv S) {i j u : Int32} (hi : vp_in i 6) (hj : vp_in j 6) (hu : 0 ≤ u.toInt ∧ u.toInt ≤ 8) : fX2_lineBetween (mkM th S) i j u = fX0_gapInUnits S i j u := by
  have a1 := hI.Drng hi
  have a2 := hI.Drng hj
  have z0 : (0 : Int64).toInt = 0 := by decide
  have l1 : (1 : Int64).toInt = 1 := by decide
  have hd0 := sL (x := xD S j.toNatClampNeg) (y := xD S i.toNatClampNeg) rfl rfl (by omega)
  have hr : -10000000 < (xD S j.toNatClampNeg).toInt - (xD S i.toNatClampNeg).toInt ∧ (xD S j.toNatClampNeg).toInt - (xD S i.toNatClampNeg).toInt < 10000000 := by omega
  have em : ∀ k : Nat, mt (mkM th S) k = xN S k := fun _ => rfl
  unfold fX2_lineBetween fX0_gapInUnits
  rw [dayNow_eq hI hi, dayNow_eq hI hj]
  by_cases h8 : u = 8
  · simp only [if_pos h8, em]
    have hd := hd0
    generalize (xD S j.toNatClampNeg).toInt - (xD S i.toNatClampNeg).toInt = d at hd hr
    generalize xD S j.toNatClampNeg - xD S i.toNatClampNeg = dd at hd ⊢
    generalize xN S j.toNatClampNeg - xN S i.toNatClampNeg = nn
    by_cases c : lg_cmp dd (0 : Int64) ≤ 0
    · rw [if_pos c, if_pos c]
    · rw [if_neg c, if_neg c]
      by_cases c2 : 0 ≤ lg_cmp nn (0 : Int64)
      · rw [if_pos c2, if_pos c2]
      · rw [if_neg c2, if_neg c2]
        have hp : 0 < d := by
          have : ¬ dd.toInt ≤ (0 : Int64).toInt := fun z => c (lgc_le.mpr z)
          rw [hd, z0] at this
          omega
        exact if_pos (lgc_ge.mpr (by rw [sL hd l1 (by omega), z0]; omega))
  · have h7 : 0 ≤ u.toInt ∧ u.toInt ≤ 7 := ⟨hu.1, by
      have : ¬ u.toInt = 8 := fun z => h8 (eqI z (by decide))
      omega⟩
    obtain ⟨Q, P, u1, u2, u3, -, -⟩ := un8 h7
    have e5 : ∀ x : Int64, fX0_quotient x (fX0_nanosOfUnit u) = x / fX0_nanosOfUnit u := fun x => quo u1 u3
    simp only [if_neg h8, u2, e5, em]
    have hd := hd0
    generalize (xD S j.toNatClampNeg).toInt - (xD S i.toNatClampNeg).toInt = d at hd hr
    generalize xD S j.toNatClampNeg - xD S i.toNatClampNeg = dd at hd ⊢
    generalize xN S j.toNatClampNeg - xN S i.toNatClampNeg = nn
    by_cases c : lg_cmp dd (0 : Int64) ≤ 0
    · rw [if_pos c, if_pos c]
    · rw [if_neg c, if_neg c]
      by_cases c2 : 0 ≤ lg_cmp nn (0 : Int64)
      · rw [if_pos c2, if_pos c2]
      · rw [if_neg c2, if_neg c2]
        have hp : 0 < d := by
          have : ¬ dd.toInt ≤ (0 : Int64).toInt := fun z => c (lgc_le.mpr z)
          rw [hd, z0] at this
          omega
        exact if_pos (lgc_ge.mpr (by rw [sL hd l1 (by omega), z0]; omega))
theorem mu_pos {u : Int32} (h : 9 ≤ u.toInt ∧ u.toInt ≤ 13) : 0 < (fX0_monthsOfUnit u).toInt := by
  rcases en13 h with rfl | rfl | rfl | rfl | rfl <;> decide +kernel
theorem mgap_eq {S : SX} {th : Int32} (hI : Inv S) {i j u : Int32} (hi : vp_in i 6) (hj : vp_in j 6) (hu : 9 ≤ u.toInt ∧ u.toInt ≤ 13) : (if 0 < (fX2_order (mkM th S) i j) then (some (some ((-(fX2_monthsBack (mkM th S) i j)) / ((fX2_monthsOf u).toInt64)))) else (some (some ((fX2_monthsOn (mkM th S) i j) / ((fX2_monthsOf u).toInt64))))) = (some (some (fX0_quotient (fX0_gapInMonths S i j) (fX0_monthsOfUnit u))) : Option (Option Int64)) := by
  obtain ⟨z, -, z2, -⟩ := mu_int (u := u) hu
  rw [z2, quo rfl (mu_pos hu), order_eq hI hi hj]
  unfold fX2_monthsBack fX0_gapInMonths
  rw [mon_eq hI hi hj, mon_eq hI hj hi, ord_neg S j i]
  have h3 : fX0_order S i j = -1 ∨ fX0_order S i j = 0 ∨ fX0_order S i j = 1 := by
    unfold fX0_order
    rcases lgc_3 (xD S i.toNatClampNeg) (xD S j.toNatClampNeg) with a | a | a <;> rcases lgc_3 (xN S i.toNatClampNeg) (xN S j.toNatClampNeg) with b | b | b <;> rw [a, b] <;> decide
  rcases h3 with a | a | a <;> rw [a]
  · rw [if_neg (by decide), if_pos (by decide)]
  · rw [if_neg (by decide), if_pos (by decide)]
  · rw [if_pos (by decide), if_neg (by decide)]
theorem ogap_eq {S : SX} {th : Int32} (hI : Inv S) {i j u : Int32} (hi : vp_in i 6) (hj : vp_in j 6) (hu : 0 ≤ u.toInt ∧ u.toInt ≤ 13) : oX2_betweenNow (mkM th S) i j u = oX0_gapText S i j u := by
  have t8 : (8 : Int32).toInt = 8 := by decide
  have t9 : (9 : Int32).toInt = 9 := by decide
  have em : ∀ k : Nat, md (mkM th S) k = xd S k := fun _ => rfl
  unfold oX2_betweenNow oX0_gapText fX0_isGapRefused
  rw [dayNow_eq hI hi, dayNow_eq hI hj, abs_sub (by have := hI.Drng hi; omega) (by have := hI.Drng hj; omega), em, em]
  by_cases c8 : u.toInt ≤ 8
  · have k8 : u ≤ (8 : Int32) := Int32.le_iff_toInt_le.mpr (by rw [t8]; exact c8)
    have k9 : ¬ (9 : Int32) ≤ u := fun z => by have := Int32.le_iff_toInt_le.mp z; rw [t9] at this; omega
    have j9 : u < (9 : Int32) := Int32.lt_iff_toInt_lt.mpr (by rw [t9]; omega)
    have hv : (some (some (fX2_lineBetween (mkM th S) i j u)) : Option (Option Int64)) = some (some (fX0_gapInUnits S i j u)) := by rw [lineU_eq hI hi hj ⟨hu.1, c8⟩]
    by_cases c0 : u = 0
    · rw [if_pos c0, if_pos c0]
      by_cases c1 : (lg_cmp (fJ9_abs_067f4 ((xD S j.toNatClampNeg) - (xD S i.toNatClampNeg))) (100000 : Int64)) ≤ 0
      · rw [if_pos c1, if_pos rfl, if_pos rfl, if_neg k9]
        exact hv
      · rw [if_neg c1, if_neg (by decide), if_neg (by decide)]
    · rw [if_neg c0, if_neg c0, if_pos k8, if_pos j9, if_pos rfl, if_neg k9]
      exact hv
  · have k8 : ¬ u ≤ (8 : Int32) := fun z => by have := Int32.le_iff_toInt_le.mp z; rw [t8] at this; omega
    have k9 : (9 : Int32) ≤ u := Int32.le_iff_toInt_le.mpr (by rw [t9]; omega)
    have j9 : ¬ u < (9 : Int32) := fun z => by have := Int32.lt_iff_toInt_lt.mp z; rw [t9] at this; omega
    have c0 : ¬ u = 0 := fun z => by rw [z, show (0 : Int32).toInt = 0 from by decide] at c8; omega
    rw [if_neg c0, if_neg c0, if_neg k8, if_neg j9]
    by_cases c28 : (28 : Int32) < (xd S i.toNatClampNeg)
    · rw [if_pos c28, if_pos c28, if_neg (by decide)]
    · rw [if_neg c28, if_neg c28]
      by_cases d28 : (xd S j.toNatClampNeg) ≤ (28 : Int32)
      · rw [if_pos d28, if_pos d28, if_pos rfl, if_pos k9]
        exact mgap_eq hI hi hj ⟨by omega, hu.2⟩
      · rw [if_neg d28, if_neg d28, if_neg (by decide)]
theorem o_nanoOfDay {S : SX} {th p0 : Int32} (hM : vp_in p0 6) : oX2_nanoOfDay (mkM th S) p0 = oX0_nanoOfDay S p0 := by
  unfold oX2_nanoOfDay
  rw [none_0 hM]
  exact if_pos (by decide)
theorem o_field {S : SX} {th p0 p1 : Int32} (hI : Inv S) (hM : vp_in p0 6) (hR : (¬ p1 < (0 : Int32) ∧ p1 ≤ (27 : Int32))) : oX2_field (mkM th S) p0 p1 = oX0_field S p0 p1 := by
  unfold oX2_field oX0_field
  rw [none_0 hM, from_1 hR.1 hR.2]
  refine (if_pos (by decide)).trans ?_
  by_cases c : (15 : Int32) ≤ p1
  · have c2 : (14 : Int32) < p1 := by
      have := Int32.le_iff_toInt_le.mp c
      rw [show (15 : Int32).toInt = 15 from by decide] at this
      exact Int32.lt_iff_toInt_lt.mpr (by rw [show (14 : Int32).toInt = 14 from by decide]; omega)
    rw [if_pos c, if_pos c2]
    exact congrArg (fun z => some (some z)) (df_eq hI hM)
  · have c2 : ¬ (14 : Int32) < p1 := fun z => c (by
      have := Int32.lt_iff_toInt_lt.mp z
      rw [show (14 : Int32).toInt = 14 from by decide] at this
      exact Int32.le_iff_toInt_le.mpr (by rw [show (15 : Int32).toInt = 15 from by decide]; omega))
    rw [if_neg c, if_neg c2]
    exact congrArg (fun z => some (some z)) (tf_eq hI hM)

theorem o_between {S : SX} {th p0 p1 p2 : Int32} (hI : Inv S) (hM : vp_in p0 6 ∧ vp_in p1 6) (hR : (¬ p2 < (0 : Int32) ∧ p2 ≤ (13 : Int32))) : oX2_between (mkM th S) p0 p1 p2 = oX0_between S p0 p1 p2 := by
  have r := rg hR (by decide : (0 : Int32).toInt = 0) (by decide : (13 : Int32).toInt = 13)
  unfold oX2_between
  rw [none_0 hM.1, none_0 hM.2, from_1 hR.1 hR.2]
  exact (if_pos rfl).trans ((if_pos (by decide)).trans (ogap_eq hI hM.1 hM.2 r))

theorem o_until {S : SX} {th p0 p1 p2 : Int32} (hI : Inv S) (hM : vp_in p0 6 ∧ vp_in p1 6) (hR : (¬ p2 < (0 : Int32) ∧ p2 ≤ (13 : Int32))) : oX2_until (mkM th S) p0 p1 p2 = oX0_until S p0 p1 p2 := by
  have r := rg hR (by decide : (0 : Int32).toInt = 0) (by decide : (13 : Int32).toInt = 13)
  unfold oX2_until
  rw [none_0 hM.1, none_0 hM.2, from_1 hR.1 hR.2]
  exact (if_pos rfl).trans ((if_pos (by decide)).trans (ogap_eq hI hM.1 hM.2 r))

theorem cmp_nanoOfDay {S : SX} {T : SM} {n : Int64} {p0 c9 : Int32} {n9 : Int64} {S9 : SX} (hR : Rel S T) (h9 : H_nanoOfDay S n p0 c9 n9 S9) : fX2_thrown (gX2_nanoOfDay T p0) = c9 ∧ (c9 = 0 → oX2_nanoOfDay T p0 = oX0_nanoOfDay S p0) := by
  obtain ⟨⟨th, rfl⟩, hI⟩ := hR
  rcases h9 with ⟨h, rfl, rfl, rfl⟩ | ⟨hM, rfl, rfl, rfl⟩
  · rw [b1_nanoOfDay h]
    exact ⟨rfl, fun z => absurd z (by decide)⟩
  · rw [(g_nanoOfDay (th := th) hI hM).1]
    exact ⟨rfl, fun _ => o_nanoOfDay hM⟩

theorem cmp_field {S : SX} {T : SM} {n : Int64} {p0 p1 c9 : Int32} {n9 : Int64} {S9 : SX} (hR : Rel S T) (h9 : H_field S n p0 p1 c9 n9 S9) : fX2_thrown (gX2_field T p0 p1) = c9 ∧ (c9 = 0 → oX2_field T p0 p1 = oX0_field S p0 p1) := by
  obtain ⟨⟨th, rfl⟩, hI⟩ := hR
  rcases h9 with ⟨h, rfl, rfl, rfl⟩ | ⟨hM, h, rfl, rfl, rfl⟩ | ⟨hM, hR, rfl, rfl, rfl⟩
  · rw [b1_field h]
    exact ⟨rfl, fun z => absurd z (by decide)⟩
  · rw [b2_field hM h]
    exact ⟨rfl, fun z => absurd z (by decide)⟩
  · rw [(g_field (th := th) hI hM hR).1]
    exact ⟨rfl, fun _ => o_field hI hM hR⟩

theorem cmp_between {S : SX} {T : SM} {n : Int64} {p0 p1 p2 c9 : Int32} {n9 : Int64} {S9 : SX} (hR : Rel S T) (h9 : H_between S n p0 p1 p2 c9 n9 S9) : fX2_thrown (gX2_between T p0 p1 p2) = c9 ∧ (c9 = 0 → oX2_between T p0 p1 p2 = oX0_between S p0 p1 p2) := by
  obtain ⟨⟨th, rfl⟩, hI⟩ := hR
  rcases h9 with ⟨h, rfl, rfl, rfl⟩ | ⟨hM, h, rfl, rfl, rfl⟩ | ⟨hM, hR, rfl, rfl, rfl⟩
  · rw [b1_between h]
    exact ⟨rfl, fun z => absurd z (by decide)⟩
  · rw [b2_between hM h]
    exact ⟨rfl, fun z => absurd z (by decide)⟩
  · rw [(g_between (th := th) hI hM hR).1]
    exact ⟨rfl, fun _ => o_between hI hM hR⟩

theorem cmp_until {S : SX} {T : SM} {n : Int64} {p0 p1 p2 c9 : Int32} {n9 : Int64} {S9 : SX} (hR : Rel S T) (h9 : H_until S n p0 p1 p2 c9 n9 S9) : fX2_thrown (gX2_until T p0 p1 p2) = c9 ∧ (c9 = 0 → oX2_until T p0 p1 p2 = oX0_until S p0 p1 p2) := by
  obtain ⟨⟨th, rfl⟩, hI⟩ := hR
  rcases h9 with ⟨h, rfl, rfl, rfl⟩ | ⟨hM, h, rfl, rfl, rfl⟩ | ⟨hM, hR, rfl, rfl, rfl⟩
  · rw [b1_until h]
    exact ⟨rfl, fun z => absurd z (by decide)⟩
  · rw [b2_until hM h]
    exact ⟨rfl, fun z => absurd z (by decide)⟩
  · rw [(g_until (th := th) hI hM hR).1]
    exact ⟨rfl, fun _ => o_until hI hM hR⟩
