/-! a valid date is sound -/
theorem fd_p400 (z : Int) : fd (z + 400) = fd z + 146097 := by unfold fd; omega
theorem len_400 {y y2 m : Int32} (h : y2.toInt = y.toInt + 400) : fX0_monthLength y2 m = fX0_monthLength y m ∧ fX0_daysAhead y2 m = fX0_daysAhead y m := by
  have hl : fX0_isLeapYear y2 = fX0_isLeapYear y := by
    have k : lp y2.toInt ↔ lp y.toInt := by unfold lp; omega
    rcases leap0 y with ⟨a, e⟩ | ⟨a, e⟩ <;> rcases leap0 y2 with ⟨b, f⟩ | ⟨b, f⟩
    · rw [e, f]
    · exact absurd (k.mpr a) b
    · exact absurd (k.mp b) a
    · rw [e, f]
  unfold fX0_monthLength fX0_daysAhead
  rw [hl]
  exact ⟨rfl, rfl⟩
theorem cyc_1 {S : SX} (hI : Inv S) {i : Int32} (hi : vp_in i 6) : fX0_isBackFromCycle S i = 1 := by
  have hv := hI.at hi
  have hd := hv.d31
  have hy := hv.1
  unfold YR at hy
  unfold fX0_isBackFromCycle
  by_cases c : ((xy S i.toNatClampNeg) + (400 : Int32)) ≤ (9999 : Int32)
  · rw [if_pos c]
    have e0 : ((xy S i.toNatClampNeg) + (400 : Int32)).toInt = (xy S i.toNatClampNeg).toInt + 400 := aI (x := xy S i.toNatClampNeg) rfl (show (400 : Int32).toInt = 400 from by decide) (by omega)
    obtain ⟨e1, e2⟩ := len_400 (m := xm S i.toNatClampNeg) e0
    have e3 : fJ9_min_7cf53 (xd S i.toNatClampNeg) (fX0_monthLength (xy S i.toNatClampNeg) (xm S i.toNatClampNeg)) = xd S i.toNatClampNeg := by
      unfold fJ9_min_7cf53
      exact if_neg (Int32.not_lt.mpr hv.2.2.2)
    have f1 := dayOf_fd (y := (xy S i.toNatClampNeg) + (400 : Int32)) (m := xm S i.toNatClampNeg) (d := xd S i.toNatClampNeg) (by rw [e0]; omega) hv.2.1 (by omega)
    have f2 := dayOf_fd (y := xy S i.toNatClampNeg) (m := xm S i.toNatClampNeg) (d := xd S i.toNatClampNeg) (by omega) hv.2.1 (by omega)
    have ha := ahead_rng (y := xy S i.toNatClampNeg) hv.2.1
    have hf : -5000000 < fd (xy S i.toNatClampNeg).toInt ∧ fd (xy S i.toNatClampNeg).toInt < 5000000 := by unfold fd; omega
    rw [e0, e2, fd_p400] at f1
    rw [e1, e3]
    refine if_pos (lgc_eq.mpr ?_)
    rw [sL f1 (show (146097 : Int64).toInt = 146097 from by decide) (by omega), hI.D hi, f2]
    omega
  · exact if_neg c
theorem less_1 {S : SX} {i : Int32} {a b c : Int64} {A B C : Int} (ha : a.toInt = A) (hb : b.toInt = B) (hc : c.toInt = C) (h1 : B64 (B - C)) (h2 : B64 (A + (B - C) / 86400000000000)) (e1 : A + (B - C) / 86400000000000 = (xD S i.toNatClampNeg).toInt) (e2 : (B - C) % 86400000000000 = (xN S i.toNatClampNeg).toInt) : fX0_isLineLess S i a b c = 1 := by
  unfold B64 at h1 h2
  have s := sL hb hc h1
  unfold fX0_isLineLess
  rw [if_pos (lgc_eq.mpr ((aL ha (fd64 s lDAY (by decide)) h2).trans e1))]
  exact if_pos (lgc_eq.mpr ((fm64 s lDAY (by decide)).trans e2))
theorem bnano_1 {S : SX} (hI : Inv S) {i : Int32} (hi : vp_in i 6) : fX0_isBackFromNano S i = 1 := by
  have hN := hI.N hi
  have hD := hI.Drng hi
  unfold TV at hN
  have n1 := aL (x := xN S i.toNatClampNeg) rfl (show (1 : Int64).toInt = 1 from by decide) (by omega)
  have f1 := fd64 n1 lDAY (by decide)
  have f2 := fm64 n1 lDAY (by decide)
  have a1 := aL (x := xD S i.toNatClampNeg) rfl f1 (by omega)
  unfold fX0_isBackFromNano
  by_cases c : (lg_cmp ((xD S i.toNatClampNeg) + (fJ9_floorDiv_f86c9 ((xN S i.toNatClampNeg) + (1 : Int64)) (86400000000000 : Int64))) (2932896 : Int64)) ≤ 0
  · rw [if_pos c]
    exact less_1 a1 f2 (show (1 : Int64).toInt = 1 from by decide) (by unfold B64; omega) (by unfold B64; omega) (by omega) (by omega)
  · exact if_neg c
theorem bday_1 {S : SX} (hI : Inv S) {i : Int32} (hi : vp_in i 6) : fX0_isBackFromDay S i = 1 := by
  have hN := hI.N hi
  have hD := hI.Drng hi
  unfold TV at hN
  have a1 := aL (x := xD S i.toNatClampNeg) rfl (show (1 : Int64).toInt = 1 from by decide) (by omega)
  unfold fX0_isBackFromDay
  by_cases c : (lg_cmp (xD S i.toNatClampNeg) (2932896 : Int64)) < 0
  · rw [if_pos c]
    exact less_1 a1 rfl lDAY (by unfold B64; omega) (by unfold B64; omega) (by omega) (by omega)
  · exact if_neg c
theorem cut_ok {N : Int64} {u : Int32} (h : TV N) (hu : 0 ≤ u.toInt ∧ u.toInt ≤ 7) : ¬ 0 < lg_cmp (fX0_cutNano N u) N ∧ lg_cmp (fX0_cutNano (fX0_cutNano N u) u) (fX0_cutNano N u) = 0 := by
  obtain ⟨Q, P, u1, -, u3, -, -⟩ := un8 hu
  unfold TV at h
  have c : ∀ M : Int64, 0 ≤ M.toInt → (fX0_cutNano M u).toInt = M.toInt / Q * Q := fun M hM => by
    unfold fX0_cutNano
    rw [quo u1 u3]
    have r := fb_rngL M
    have h1 := Int.ediv_mul_le M.toInt (Int.ne_of_gt u3)
    have h2 := Int.mul_nonneg (Int.ediv_nonneg hM (Int.le_of_lt u3)) (Int.le_of_lt u3)
    exact mL (dL (x := M) rfl u1 hM u3) u1 (by omega)
  have h1 := Int.ediv_mul_le N.toInt (Int.ne_of_gt u3)
  have h2 := Int.mul_nonneg (Int.ediv_nonneg h.1 (Int.le_of_lt u3)) (Int.le_of_lt u3)
  have e := c N h.1
  refine ⟨fun z => ?_, lgc_eq.mpr ?_⟩
  · have z2 := lgc_gt.mp z
    rw [e] at z2
    omega
  · rw [c _ (by rw [e]; exact h2), e, Int.mul_ediv_cancel _ (Int.ne_of_gt u3)]
theorem cutw_1 {N : Int64} (h : TV N) : fX0_isCutWell N = 1 := by
  have k0 := cut_ok (u := 0) h (by decide)
  have k1 := cut_ok (u := 1) h (by decide)
  have k2 := cut_ok (u := 2) h (by decide)
  have k3 := cut_ok (u := 3) h (by decide)
  have k4 := cut_ok (u := 4) h (by decide)
  have k5 := cut_ok (u := 5) h (by decide)
  have k6 := cut_ok (u := 6) h (by decide)
  have k7 := cut_ok (u := 7) h (by decide)
  unfold fX0_isCutWell
  rw [if_neg k0.1, if_pos k0.2, if_neg k1.1, if_pos k1.2, if_neg k2.1, if_pos k2.2, if_neg k3.1, if_pos k3.2, if_neg k4.1, if_pos k4.2, if_neg k5.1, if_pos k5.2, if_neg k6.1, if_pos k6.2, if_neg k7.1, if_pos k7.2]
theorem alone_1 {S : SX} (hI : Inv S) {i : Int32} (hi : vp_in i 6) : fX0_isSoundAlone S i = 1 := by
  unfold fX0_isSoundAlone
  rw [parts_1 hI hi, date_1 hI hi, bnano_1 hI hi, bday_1 hI hi, cyc_1 hI hi, cutw_1 (hI.N hi)]
  decide
theorem lgc_neg (x y : Int64) : lg_cmp x y = -(lg_cmp y x) := by
  rcases lgc_cases x y with ⟨h, e⟩ | ⟨h, e⟩ | ⟨h, e⟩ <;> rcases lgc_cases y x with ⟨g, f⟩ | ⟨g, f⟩ | ⟨g, f⟩ <;> first | omega | (rw [e, f] <;> decide)
theorem ord_neg (S : SX) (i j : Int32) : fX0_order S i j = -(fX0_order S j i) := by
  unfold fX0_order
  rw [lgc_neg (xD S j.toNatClampNeg) (xD S i.toNatClampNeg), lgc_neg (xN S j.toNatClampNeg) (xN S i.toNatClampNeg)]
  rcases lgc_3 (xD S i.toNatClampNeg) (xD S j.toNatClampNeg) with a | a | a <;> rcases lgc_3 (xN S i.toNatClampNeg) (xN S j.toNatClampNeg) with b | b | b <;> rw [a, b] <;> decide
def gG (d n : Int) : Int := if d ≤ 0 then (if 0 ≤ d then d else if n ≤ 0 then d else d + 1) else if 0 ≤ n then d else d - 1
theorem gG_neg (d n : Int) : gG (-d) (-n) = -gG d n := by
  unfold gG
  by_cases c1 : d ≤ 0 <;> by_cases c2 : 0 ≤ d <;> by_cases c3 : n ≤ 0 <;> by_cases c4 : 0 ≤ n <;> by_cases e1 : -d ≤ 0 <;> by_cases e2 : 0 ≤ -d <;> by_cases e3 : -n ≤ 0 <;> by_cases e4 : 0 ≤ -n <;> simp only [c1, c2, c3, c4, e1, e2, e3, e4, if_true, if_false] <;> omega
theorem gG_rng {d n : Int} (h : -10000000 < d ∧ d < 10000000) : -10000001 < gG d n ∧ gG d n < 10000001 := by
  unfold gG
  by_cases c1 : d ≤ 0 <;> by_cases c2 : 0 ≤ d <;> by_cases c3 : n ≤ 0 <;> by_cases c4 : 0 ≤ n <;> simp only [c1, c2, c3, c4, if_true, if_false] <;> omega
theorem sm_0 {x : Int64} (h1 : -86400000000000 < x.toInt) (h2 : x.toInt < 86400000000000) : x / (86400000000000 : Int64) = 0 := by
  have z0 : (0 : Int64).toInt = 0 := by decide
  rcases Int.le_total 0 x.toInt with h | h
  · exact eqL ((dL (x := x) rfl lDAY h (by decide)).trans (by omega)) z0
  · exact eqL ((dLn (x := x) rfl lDAY h (by decide)).trans (by omega)) z0
theorem gap7_pure {dd nn : Int64} {d n : Int} (hd : dd.toInt = d) (hn : nn.toInt = n) (h1 : -10000000 < d ∧ d < 10000000) (h2 : -86400000000000 < n ∧ n < 86400000000000) :
    (if d ≤ 0 then (if 0 ≤ d then dd + nn / (86400000000000 : Int64) else if n ≤ 0 then dd + nn / (86400000000000 : Int64) else dd + (1 : Int64) + (nn - (86400000000000 : Int64)) / (86400000000000 : Int64)) else if 0 ≤ n then (if 0 ≤ d then dd + nn / (86400000000000 : Int64) else if n ≤ 0 then dd + nn / (86400000000000 : Int64) else dd + (1 : Int64) + (nn - (86400000000000 : Int64)) / (86400000000000 : Int64)) else dd - (1 : Int64) + (nn + (86400000000000 : Int64)) / (86400000000000 : Int64)).toInt = gG d n := by
  have l1 : (1 : Int64).toInt = 1 := by decide
  have s1 := sm_0 (x := nn) (by omega) (by omega)
  unfold gG
  by_cases c1 : d ≤ 0
  · rw [if_pos c1, if_pos c1]
    by_cases c2 : 0 ≤ d
    · rw [if_pos c2, if_pos c2, s1, Int64.add_zero]; exact hd
    · rw [if_neg c2, if_neg c2]
      by_cases c3 : n ≤ 0
      · rw [if_pos c3, if_pos c3, s1, Int64.add_zero]; exact hd
      · have e := sL hn lDAY (by omega)
        rw [if_neg c3, if_neg c3, sm_0 (by omega) (by omega), Int64.add_zero]
        exact aL hd l1 (by omega)
  · rw [if_neg c1, if_neg c1]
    by_cases c3 : 0 ≤ n
    · rw [if_pos c3, if_pos c3, if_pos (show 0 ≤ d by omega), s1, Int64.add_zero]; exact hd
    · have e := aL hn lDAY (by omega)
      rw [if_neg c3, if_neg c3, sm_0 (by omega) (by omega), Int64.add_zero]
      exact sL hd l1 (by omega)
theorem gap7 {S : SX} (hI : Inv S) {i j : Int32} (hi : vp_in i 6) (hj : vp_in j 6) : (fX0_gapInUnits S i j (7 : Int32)).toInt = gG ((xD S j.toNatClampNeg).toInt - (xD S i.toNatClampNeg).toInt) ((xN S j.toNatClampNeg).toInt - (xN S i.toNatClampNeg).toInt) := by
  have a1 := hI.Drng hi
  have a2 := hI.Drng hj
  have b1 := hI.N hi
  have b2 := hI.N hj
  unfold TV at b1 b2
  have hd := sL (x := xD S j.toNatClampNeg) (y := xD S i.toNatClampNeg) rfl rfl (by omega)
  have hn := sL (x := xN S j.toNatClampNeg) (y := xN S i.toNatClampNeg) rfl rfl (by omega)
  have p := gap7_pure hd hn (by omega) (by omega)
  have z0 : (0 : Int64).toInt = 0 := by decide
  have q7 : ∀ x : Int64, fX0_quotient x (fX0_nanosOfUnit (7 : Int32)) = x / (86400000000000 : Int64) := fun x => by
    rw [show fX0_nanosOfUnit (7 : Int32) = (86400000000000 : Int64) from by decide +kernel]
    exact quo lDAY (by decide)
  have qd : (86400000000000 : Int64) / (86400000000000 : Int64) = 1 := by decide +kernel
  rw [← p]
  unfold fX0_gapInUnits
  simp only [q7, qd, Int64.mul_one, if_neg (show ¬ (7 : Int32) = 8 by decide), lgc_le, lgc_ge, hd, hn, z0]
theorem pair_1 {S : SX} (hI : Inv S) {i j : Int32} (hi : vp_in i 6) (hj : vp_in j 6) : fX0_isSoundPair S i j = 1 := by
  have a1 := hI.Drng hi
  have a2 := hI.Drng hj
  have g1 := gap7 hI hi hj
  have g2 := gap7 hI hj hi
  have r := gG_rng (d := (xD S j.toNatClampNeg).toInt - (xD S i.toNatClampNeg).toInt) (n := (xN S j.toNatClampNeg).toInt - (xN S i.toNatClampNeg).toInt) (by omega)
  have e := gG_neg ((xD S j.toNatClampNeg).toInt - (xD S i.toNatClampNeg).toInt) ((xN S j.toNatClampNeg).toInt - (xN S i.toNatClampNeg).toInt)
  rw [Int.neg_sub, Int.neg_sub] at e
  unfold fX0_isSoundPair
  rw [if_pos (ord_neg S i j), if_pos same_eq.symm]
  refine if_pos (lgc_eq.mpr ?_)
  rw [gL g2 (by rw [e]; omega), g1, e, Int.neg_neg]
theorem sound_1 {S : SX} (hI : Inv S) : fX0_isSound S = 1 := by
  unfold fX0_isSound
  rw [alone_1 hI v0, alone_1 hI v1, alone_1 hI v2, alone_1 hI v3, alone_1 hI v4, alone_1 hI v5, pair_1 hI v1 v0, pair_1 hI v2 v0, pair_1 hI v2 v1, pair_1 hI v3 v0, pair_1 hI v3 v1, pair_1 hI v3 v2, pair_1 hI v4 v0, pair_1 hI v4 v1, pair_1 hI v4 v2, pair_1 hI v4 v3, pair_1 hI v5 v0, pair_1 hI v5 v1, pair_1 hI v5 v2, pair_1 hI v5 v3, pair_1 hI v5 v4]
  decide
theorem cmp_isSound {S : SX} {T : SM} (hR : Rel S T) : fX0_isSound S = (gX2_isSound T).1 := sound_1 hR.2
