/-! the two states side by side -/
theorem peta {α β : Type} {q : α × β} : (q.1, q.2) = q := rfl
def mkM (th : Int32) (S : SX) : SM := (th, xy S, xm S, xd S, xN S, S.2.2.2.2.2)
def DV (y m d : Int32) : Prop := YR y ∧ MN m ∧ 1 ≤ d.toInt ∧ d ≤ fX0_monthLength y m
def TV (N : Int64) : Prop := 0 ≤ N.toInt ∧ N.toInt < 86400000000000
def Inv (S : SX) : Prop := (∀ j : Nat, j < 6 → DV (xy S j) (xm S j) (xd S j) ∧ xD S j = fX0_dayOf (xy S j) (xm S j) (xd S j) ∧ TV (xN S j)) ∧ (0 ≤ (xi S 0).toInt ∧ (xi S 0).toInt ≤ 23) ∧ (0 ≤ (xi S 1).toInt ∧ (xi S 1).toInt ≤ 59) ∧ (0 ≤ (xi S 2).toInt ∧ (xi S 2).toInt ≤ 59) ∧ (0 ≤ (xi S 3).toInt ∧ (xi S 3).toInt ≤ 999999999)
def Rel (S : SX) (T : SM) : Prop := (∃ th : Int32, T = mkM th S) ∧ Inv S
theorem Rel.mo {S : SX} {T : SM} (h : Rel S T) : MO T := by
  obtain ⟨⟨th, rfl⟩, hI⟩ := h
  intro j hj
  have h2 := (hI.1 j hj).1.2.1.2
  rw [Int32.le_iff_toInt_le, show (12 : Int32).toInt = 12 from by decide]
  exact h2
theorem vin_nat {x : Int32} {n : Nat} (h : vp_in x n) : x.toNatClampNeg < n := Nat.not_le.mp fun q => h (Or.inr q)
theorem none_0 {x : Int32} (h : vp_in x 6) : fX2_isNone x = 0 := by
  rw [vp_in_iff] at h
  unfold fX2_isNone
  rcases from_spec 0 5 x with ⟨e, n⟩ | ⟨e, -⟩
  · refine absurd ⟨Int32.le_iff_toInt_le.mpr ?_, Int32.le_iff_toInt_le.mpr ?_⟩ n
    · rw [show (0 : Int32).toInt = 0 from by decide]; exact h.1
    · rw [show (5 : Int32).toInt = 5 from by decide]; omega
  · rw [e]; rfl
theorem none_1 {x : Int32} (h : ¬ vp_in x 6) : fX2_isNone x = 1 := by
  rcases Classical.em (fX2_isNone x = 0) with q | q
  · exact absurd (none_in q) h
  · unfold fX2_isNone at q ⊢
    by_cases c : fX2_isFrom (0 : Int32) (5 : Int32) x = 0
    · rw [if_pos c]
    · rw [if_neg c] at q; exact absurd rfl q
theorem from_1 {lo hi v : Int32} (h1 : ¬ v < lo) (h2 : v ≤ hi) : fX2_isFrom lo hi v = 1 := by
  rcases from_spec lo hi v with ⟨e, n⟩ | ⟨e, -⟩
  · exact absurd ⟨Int32.not_lt.mp h1, h2⟩ n
  · exact e
theorem from_0 {lo hi v : Int32} (h : ¬ (¬ v < lo ∧ v ≤ hi)) : fX2_isFrom lo hi v = 0 := by
  rcases from_spec lo hi v with ⟨e, n⟩ | ⟨e, g1, g2⟩
  · exact e
  · exact absurd ⟨Int32.not_lt.mpr g1, g2⟩ h
theorem DV.d31 {y m d : Int32} (h : DV y m d) : 1 ≤ d.toInt ∧ d.toInt ≤ 31 := by
  have h1 := Int32.le_iff_toInt_le.mp h.2.2.2
  have h2 := len_rng (y := y) (m := m)
  exact ⟨h.2.2.1, by omega⟩
theorem DV.day {y m d : Int32} (h : DV y m d) : -5000000 < (fX0_dayOf y m d).toInt ∧ (fX0_dayOf y m d).toInt < 5000000 := by
  have h1 := h.d31
  have h2 := h.1
  have h3 := ahead_rng (y := y) h.2.1
  unfold YR at h2
  rw [dayOf_fd (by omega) h.2.1 (by omega)]
  have : -4000000 < fd y.toInt ∧ fd y.toInt < 4000000 := by unfold fd; omega
  omega
theorem DV.eq {y m d : Int32} (h : DV y m d) : fX2_dayOf y m d = fX0_dayOf y m d := by
  have h1 := h.d31
  have h2 := h.1
  unfold YR at h2
  exact dayOf_eq (by omega) h.2.1 (by omega)
theorem DV.wk {y m d : Int32} (h : DV y m d) : fX2_weekDay (fX2_dayOf y m d) = fX0_weekday (fX0_dayOf y m d) := by
  rw [h.eq]
  exact wk_eq (by have := h.day; omega)
theorem DV.min {y m d : Int32} (hy : YR y) (hm : MN m) (hd : 1 ≤ d.toInt) : DV y m (fJ9_min_7cf53 d (fX0_monthLength y m)) := by
  have h2 := len_rng (y := y) (m := m)
  refine ⟨hy, hm, ?_⟩
  unfold fJ9_min_7cf53
  by_cases c : fX0_monthLength y m < d
  · rw [if_pos c]; exact ⟨by omega, Int32.le_refl _⟩
  · rw [if_neg c]; exact ⟨hd, Int32.not_lt.mp c⟩
theorem Inv.at {S : SX} (h : Inv S) {i : Int32} (hi : vp_in i 6) : DV (xy S i.toNatClampNeg) (xm S i.toNatClampNeg) (xd S i.toNatClampNeg) := (h.1 _ (vin_nat hi)).1
theorem Inv.D {S : SX} (h : Inv S) {i : Int32} (hi : vp_in i 6) : xD S i.toNatClampNeg = fX0_dayOf (xy S i.toNatClampNeg) (xm S i.toNatClampNeg) (xd S i.toNatClampNeg) := (h.1 _ (vin_nat hi)).2.1
theorem Inv.N {S : SX} (h : Inv S) {i : Int32} (hi : vp_in i 6) : TV (xN S i.toNatClampNeg) := (h.1 _ (vin_nat hi)).2.2
theorem Inv.Drng {S : SX} (h : Inv S) {i : Int32} (hi : vp_in i 6) : -5000000 < (xD S i.toNatClampNeg).toInt ∧ (xD S i.toNatClampNeg).toInt < 5000000 := by rw [h.D hi]; exact (h.at hi).day
theorem dayNow_eq {S : SX} {th : Int32} (h : Inv S) {i : Int32} (hi : vp_in i 6) : fX2_dayNow (mkM th S) i = xD S i.toNatClampNeg := by
  rw [h.D hi, ← (h.at hi).eq]
  rfl
theorem refuse_eq {S : SX} {th : Int32} (hI : Inv S) : gX2_refuse (mkM th S) = ((gX0_refuse S).1, mkM th (gX0_refuse S).2) ∧ Inv (gX0_refuse S).2 := ⟨rfl, hI⟩
theorem become_eq {S : SX} {th : Int32} (hI : Inv S) {i y m d : Int32} {N : Int64} (hi : vp_in i 6) (hd : DV y m d) (hN : TV N) : gX2_become (mkM th S) i y m d N = ((gX0_becomeDate S i y m d N).1, mkM th (gX0_becomeDate S i y m d N).2) ∧ Inv (gX0_becomeDate S i y m d N).2 := by
  have e : gX0_becomeDate S i y m d N = ((fX0_weekday (fX0_dayOf y m d)), ((upd (xy S) i.toNatClampNeg y), (upd (xm S) i.toNatClampNeg m), (upd (xd S) i.toNatClampNeg d), (vp_updL (xD S) i.toNatClampNeg (fX0_dayOf y m d)), (vp_updL (xN S) i.toNatClampNeg N), (upd (S.2.2.2.2.2) 4 ((xi S 4) + (1 : Int32))))) := if_pos hd.2.2.2
  rw [e]
  refine ⟨?_, ?_⟩
  · refine Prod.ext ?_ rfl
    show fX2_weekDay (fX2_dayOf (upd (xy S) i.toNatClampNeg y i.toNatClampNeg) (upd (xm S) i.toNatClampNeg m i.toNatClampNeg) (upd (xd S) i.toNatClampNeg d i.toNatClampNeg)) = fX0_weekday (fX0_dayOf y m d)
    rw [pk_us, pk_us, pk_us]
    exact hd.wk
  · refine ⟨fun j hj => ?_, hI.2⟩
    show DV (upd (xy S) i.toNatClampNeg y j) (upd (xm S) i.toNatClampNeg m j) (upd (xd S) i.toNatClampNeg d j) ∧ vp_updL (xD S) i.toNatClampNeg (fX0_dayOf y m d) j = fX0_dayOf (upd (xy S) i.toNatClampNeg y j) (upd (xm S) i.toNatClampNeg m j) (upd (xd S) i.toNatClampNeg d j) ∧ TV (vp_updL (xN S) i.toNatClampNeg N j)
    by_cases c : j = i.toNatClampNeg
    · subst c
      rw [pk_us, pk_us, pk_us, pk_uLs, pk_uLs]
      exact ⟨hd, rfl, hN⟩
    · rw [pk_un c, pk_un c, pk_un c, pk_uLn c, pk_uLn c]
      exact hI.1 j hj
theorem lo_day : fX2_dayOf (-9999 : Int32) (1 : Int32) (1 : Int32) = (-4371587 : Int64) := by decide +kernel
theorem hi_day : fX2_dayOf (9999 : Int32) (12 : Int32) (31 : Int32) = (2932896 : Int64) := by decide +kernel
theorem becomeDay_eq {S : SX} {th : Int32} (hI : Inv S) {i : Int32} {D N : Int64} (hi : vp_in i 6) (hN : TV N) : gX2_becomeDay (mkM th S) i D N = ((gX0_becomeDay S i D N).1, mkM th (gX0_becomeDay S i D N).2) ∧ Inv (gX0_becomeDay S i D N).2 := by
  by_cases c1 : (lg_cmp D (-4371587 : Int64)) < 0
  · have e0 : gX0_becomeDay S i D N = gX0_refuse S := (if_pos c1).trans peta
    have e2 : gX2_becomeDay (mkM th S) i D N = gX2_refuse (mkM th S) := by
      unfold gX2_becomeDay
      rw [lo_day, hi_day]
      exact (if_pos c1).trans peta
    rw [e0, e2]; exact refuse_eq hI
  by_cases c2 : (lg_cmp D (2932896 : Int64)) ≤ 0
  · have g1 : -4371587 ≤ D.toInt := by
      have : ¬ D.toInt < (-4371587 : Int64).toInt := fun z => c1 (lgc_lt.mpr z)
      rw [show (-4371587 : Int64).toInt = -4371587 from by decide] at this
      omega
    have g2 : D.toInt ≤ 2932896 := by
      have := lgc_le.mp c2
      rw [show (2932896 : Int64).toInt = 2932896 from by decide] at this
      exact this
    obtain ⟨k1, k2, k3⟩ := dY_spec g1 g2
    obtain ⟨m1, m2, m3, m4, m5, m6⟩ := date_spec g1 g2
    have e0 : gX0_becomeDay S i D N = gX0_becomeDate S i (fX0_yearOf D) (dXm D) (dXq D) N := ((if_neg c1).trans (if_pos c2)).trans peta
    have e2 : gX2_becomeDay (mkM th S) i D N = gX2_become (mkM th S) i (fX0_yearOf D) (dXm D) (dXq D) N := by
      unfold gX2_becomeDay
      rw [lo_day, hi_day, ← k2, ← m2, ← m3]
      exact ((if_neg c1).trans (if_pos c2)).trans peta
    rw [e0, e2]
    exact become_eq hI hi ⟨(yearOf_spec g1 g2).1, m4, m5.1, m5.2⟩ hN
  · have e0 : gX0_becomeDay S i D N = gX0_refuse S := ((if_neg c1).trans (if_neg c2)).trans peta
    have e2 : gX2_becomeDay (mkM th S) i D N = gX2_refuse (mkM th S) := by
      unfold gX2_becomeDay
      rw [lo_day, hi_day]
      exact ((if_neg c1).trans (if_neg c2)).trans peta
    rw [e0, e2]; exact refuse_eq hI
theorem becomeMonth_eq {S : SX} {th : Int32} (hI : Inv S) {i m : Int32} {Y : Int64} {y : Int32} (hi : vp_in i 6) (hY : Y.toInt = y.toInt) (hy : YR y) (hm : MN m) : gX2_becomeMonth (mkM th S) i Y m = ((gX0_becomeMonth S i y m).1, mkM th (gX0_becomeMonth S i y m).2) ∧ Inv (gX0_becomeMonth S i y m).2 := by
  have hy2 := hy
  unfold YR at hy2
  have ey : Y.toInt32 = y := eqI (oI hY (by omega)) rfl
  unfold gX2_becomeMonth gX0_becomeMonth
  rw [if_neg (fun z => absurd (lgc_lt.mp z) (by rw [hY, show (-9999 : Int64).toInt = -9999 from by decide]; omega)), if_pos (lgc_le.mpr (by rw [hY, show (9999 : Int64).toInt = 9999 from by decide]; omega)), ey, len_eq hm]
  exact become_eq hI hi (DV.min hy hm (hI.at hi).2.2.1) (hI.N hi)
theorem month_refused {S : SX} {th : Int32} {i m : Int32} {Y : Int64} (h : ¬ (-9999 ≤ Y.toInt ∧ Y.toInt ≤ 9999)) : gX2_becomeMonth (mkM th S) i Y m = ((gX0_refuse S).1, mkM th (gX0_refuse S).2) := by
  unfold gX2_becomeMonth
  by_cases c1 : (lg_cmp Y (-9999 : Int64)) < 0
  · rw [if_pos c1]; rfl
  · rw [if_neg c1]
    have g1 : ¬ Y.toInt < -9999 := fun z => c1 (lgc_lt.mpr (by rw [show (-9999 : Int64).toInt = -9999 from by decide]; exact z))
    rw [if_neg (fun z => h ⟨by omega, by have := lgc_le.mp z; rw [show (9999 : Int64).toInt = 9999 from by decide] at this; exact this⟩)]
    rfl
theorem mc_int {S : SX} (hI : Inv S) {i : Int32} (hi : vp_in i 6) : (fX0_monthCount S i).toInt = 12 * (xy S i.toNatClampNeg).toInt + (xm S i.toNatClampNeg).toInt - 1 ∧ (-120000 ≤ 12 * (xy S i.toNatClampNeg).toInt + (xm S i.toNatClampNeg).toInt - 1 ∧ 12 * (xy S i.toNatClampNeg).toInt + (xm S i.toNatClampNeg).toInt - 1 ≤ 120000) := by
  have hd := hI.at hi
  have hy := hd.1
  have hm := hd.2.1
  unfold YR at hy
  unfold MN at hm
  exact ⟨sL (aL (mL (show (12 : Int64).toInt = 12 from by decide) (oL (x := xy S i.toNatClampNeg) rfl) (by omega)) (oL (x := xm S i.toNatClampNeg) rfl) (by omega)) (show (1 : Int64).toInt = 1 from by decide) (by omega), by omega⟩
theorem month_ix {K : Int64} {z : Int} (e2 : K.toInt = z) (hz : -3000000000000 ≤ z ∧ z ≤ 3000000000000) : ((K - ((12 : Int64) * (fX2_floor K (12 : Int64)))).toInt32 + (1 : Int32)) = ((fJ9_floorMod_f86c9 K (12 : Int64)).toInt32 + (1 : Int32)) ∧ (((fJ9_floorMod_f86c9 K (12 : Int64)).toInt32 + (1 : Int32))).toInt = z % 12 + 1 := by
  have l12 : (12 : Int64).toInt = 12 := by decide
  have f2 := fm64 e2 l12 (by decide)
  have g1 := fl2 e2 l12 (by decide)
  have e3 := oI f2 (by omega)
  refine ⟨?_, aI e3 (show (1 : Int32).toInt = 1 from by decide) (by omega)⟩
  have : (K - ((12 : Int64) * (fX2_floor K (12 : Int64)))).toInt32 = (fJ9_floorMod_f86c9 K (12 : Int64)).toInt32 := by
    refine eqI (oI (sL e2 (mL l12 g1 (by omega)) (by omega)) (by omega)) ?_
    rw [e3]
    omega
  rw [this]
theorem goMonths_eq {S : SX} {th : Int32} (hI : Inv S) {i : Int32} {k : Int64} (hi : vp_in i 6) (hk : -2000000000000 ≤ k.toInt ∧ k.toInt ≤ 2000000000000) : gX2_onMonths (mkM th S) i k = ((gX0_goMonths S i k).1, mkM th (gX0_goMonths S i k).2) ∧ Inv (gX0_goMonths S i k).2 := by
  have l12 : (12 : Int64).toInt = 12 := by decide
  obtain ⟨n1, n2⟩ := mc_int hI hi
  have e2 := aL n1 (show k.toInt = k.toInt from rfl) (by omega)
  have eR : gX2_onMonths (mkM th S) i k = gX2_becomeMonth (mkM th S) i (fX2_floor (fX0_monthCount S i + k) (12 : Int64)) (((fX0_monthCount S i + k) - ((12 : Int64) * (fX2_floor (fX0_monthCount S i + k) (12 : Int64)))).toInt32 + (1 : Int32)) := peta
  rw [eR]
  unfold gX0_goMonths
  generalize hK : fX0_monthCount S i + k = K at e2 ⊢
  generalize hz : (12 * (xy S i.toNatClampNeg).toInt + (xm S i.toNatClampNeg).toInt - 1 + k.toInt) = z at e2
  have hz2 : -3000000000000 ≤ z ∧ z ≤ 3000000000000 := by omega
  clear hK hz n1 n2 hk eR
  obtain ⟨em, e4⟩ := month_ix e2 hz2
  have f1 := fd64 e2 l12 (by decide)
  have g1 := fl2 e2 l12 (by decide)
  rw [em]
  by_cases c : -9999 ≤ z / 12 ∧ z / 12 ≤ 9999
  · have c1 : ¬ lg_cmp (fJ9_floorDiv_f86c9 K (12 : Int64)) (-9999 : Int64) < 0 := fun w => absurd (lgc_lt.mp w) (by rw [f1, show (-9999 : Int64).toInt = -9999 from by decide]; omega)
    have c2 : lg_cmp (fJ9_floorDiv_f86c9 K (12 : Int64)) (9999 : Int64) ≤ 0 := lgc_le.mpr (by rw [f1, show (9999 : Int64).toInt = 9999 from by decide]; omega)
    rw [if_neg c1, if_pos c2, peta]
    have e3 := oI f1 (by omega)
    exact becomeMonth_eq hI hi (by rw [g1, e3]) (by unfold YR; rw [e3]; omega) (by unfold MN; rw [e4]; omega)
  · have q := month_refused (S := S) (th := th) (i := i) (m := ((fJ9_floorMod_f86c9 K (12 : Int64)).toInt32 + (1 : Int32))) (Y := fX2_floor K (12 : Int64)) (by rw [g1]; exact c)
    rw [q]
    by_cases c1 : (lg_cmp (fJ9_floorDiv_f86c9 K (12 : Int64)) (-9999 : Int64)) < 0
    · rw [if_pos c1]; exact ⟨rfl, (refuse_eq (th := th) hI).2⟩
    · rw [if_neg c1]
      have g3 : ¬ z / 12 < -9999 := fun w => c1 (lgc_lt.mpr (by rw [f1, show (-9999 : Int64).toInt = -9999 from by decide]; exact w))
      rw [if_neg (fun w => c ⟨by omega, by have := lgc_le.mp w; rw [f1, show (9999 : Int64).toInt = 9999 from by decide] at this; exact this⟩)]
      exact ⟨rfl, (refuse_eq (th := th) hI).2⟩
theorem lDAY : (86400000000000 : Int64).toInt = 86400000000000 := by decide
def B64 (x : Int) : Prop := -9223372036854775808 ≤ x ∧ x < 9223372036854775808
theorem day_01 {x : Int} (h1 : 0 ≤ x) (h2 : x < 172800000000000) : 0 ≤ x / 86400000000000 ∧ x / 86400000000000 ≤ 1 := by omega
theorem line_pure {N D K W P Q : Int} (hN : 0 ≤ N ∧ N < 86400000000000) (hD : -5000000 < D ∧ D < 5000000) (hQ : 0 < Q) (hP : 0 < P) (hPQ : P * Q = 86400000000000) (hKr : -5000000000000000000 ≤ K ∧ K ≤ 5000000000000000000)
    (hWr : -30000000000 ≤ W ∧ W ≤ 30000000000) (hrr : -5000000000000000000 ≤ (K - W * P) * Q ∧ (K - W * P) * Q ≤ 5000000000000000000) (hfl : -30000000000 ≤ K / P ∧ K / P ≤ 30000000000) :
    B64 (K / P * P) ∧ B64 (K - K / P * P) ∧ K - K / P * P = K % P ∧ B64 (K % P * Q) ∧ 0 ≤ N + K % P * Q ∧ B64 (N + K % P * Q) ∧ B64 (N + (K - W * P) * Q) ∧ B64 (D + K / P) ∧ B64 (D + K / P + (N + K % P * Q) / 86400000000000) ∧ B64 (D + W) ∧ B64 (D + W + (N + (K - W * P) * Q) / 86400000000000) ∧ D + W + (N + (K - W * P) * Q) / 86400000000000 = D + K / P + (N + K % P * Q) / 86400000000000 ∧ (N + (K - W * P) * Q) % 86400000000000 = (N + K % P * Q) % 86400000000000 := by
  have m1 := Int.emod_add_mul_ediv K P
  have m2 := Int.emod_nonneg K (Int.ne_of_gt hP)
  have m3 := Int.emod_lt_of_pos K hP
  have m4 : K / P * P = P * (K / P) := Int.mul_comm _ _
  have b1 : 0 ≤ K % P * Q := Int.mul_nonneg m2 (Int.le_of_lt hQ)
  have b2 : K % P * Q < 86400000000000 := by
    rw [← hPQ]
    exact Int.mul_lt_mul_of_pos_right m3 hQ
  have b3 : P ≤ 86400000000000 := by
    have := Int.mul_le_mul_of_nonneg_left (show (1 : Int) ≤ Q by omega) (Int.le_of_lt hP)
    omega
  have key0 : K - W * P = K % P + (K / P - W) * P := by
    rw [Int.sub_mul]
    omega
  have key : (K - W * P) * Q = K % P * Q + (K / P - W) * 86400000000000 := by rw [key0, Int.add_mul, Int.mul_assoc (K / P - W), hPQ]
  have z1 : (N + (K - W * P) * Q) / 86400000000000 = (N + K % P * Q) / 86400000000000 + (K / P - W) := by rw [key, ← Int.add_assoc, Int.add_mul_ediv_right _ _ (by decide)]
  have z2 : (N + (K - W * P) * Q) % 86400000000000 = (N + K % P * Q) % 86400000000000 := by rw [key, ← Int.add_assoc, Int.add_mul_emod_self_right]
  have z3 := day_01 (x := N + K % P * Q) (by omega) (by omega)
  have z4 : K - K / P * P = K % P := by omega
  rw [z1, z4, m4]
  clear z1 key key0
  generalize (N + K % P * Q) / 86400000000000 = t at z3 ⊢
  generalize K % P * Q = u at *
  generalize (K - W * P) * Q = v at *
  generalize P * (K / P) = w at *
  generalize K / P = f at *
  generalize K % P = g at *
  unfold B64
  refine ⟨?_, ?_, rfl, ?_, ?_, ?_, ?_, ?_, ?_, ?_, ?_, ?_, z2⟩ <;> omega
/-- on the line: the class's way and the reference's -/
theorem line_eq {S : SX} {th : Int32} (hI : Inv S) {i : Int32} {k w s r : Int64} {K W P Q : Int} (hi : vp_in i 6) (hk : k.toInt = K) (hs : s.toInt = Q) (hQ : 0 < Q) (hP : 0 < P) (hPQ : P * Q = 86400000000000) (hKr : -5000000000000000000 ≤ K ∧ K ≤ 5000000000000000000)
    (hw : w.toInt = W) (hr : r.toInt = (K - W * P) * Q) (hWr : -30000000000 ≤ W ∧ W ≤ 30000000000) (hrr : -5000000000000000000 ≤ (K - W * P) * Q ∧ (K - W * P) * Q ≤ 5000000000000000000) (hfl : -30000000000 ≤ K / P ∧ K / P ≤ 30000000000) :
    gX2_onLine (mkM th S) i k s = ((gX0_goLine S i w r).1, mkM th (gX0_goLine S i w r).2) ∧ Inv (gX0_goLine S i w r).2 := by
  obtain ⟨p1, p2, p3, p4, p5, p6, p7, p8, p9, p10, p11, p12, p13⟩ := line_pure (N := (xN S i.toNatClampNeg).toInt) (D := (xD S i.toNatClampNeg).toInt) (hI.N hi) (hI.Drng hi) hQ hP hPQ hKr hWr hrr hfl
  have q1 : ((86400000000000 : Int64) / s).toInt = P := by
    rw [dL lDAY hs (by decide) hQ, ← hPQ, Int.mul_ediv_cancel _ (Int.ne_of_gt hQ)]
  have f1 := fl2 hk q1 hP
  have t1 := mL f1 q1 p1
  have t2 := (sL hk t1 p2).trans p3
  have t3 := aL (x := xN S i.toNatClampNeg) rfl (mL t2 hs p4) p6
  have x1 := aL (x := xN S i.toNatClampNeg) rfl hr p7
  have x2 := fd64 x1 lDAY (by decide)
  have x3 := fm64 x1 lDAY (by decide)
  have y2 := dL t3 lDAY p5 (by decide)
  have y3 := rL t3 lDAY p5 (by decide)
  have dn := dayNow_eq (th := th) hI hi
  have eD : ((fX2_dayNow (mkM th S) i + fX2_floor k ((86400000000000 : Int64) / s)) + (((xN S i.toNatClampNeg) + ((k - fX2_floor k ((86400000000000 : Int64) / s) * ((86400000000000 : Int64) / s)) * s)) / (86400000000000 : Int64))) = (((xD S) i.toNatClampNeg) + w) + (fJ9_floorDiv_f86c9 (((xN S) i.toNatClampNeg) + r) (86400000000000 : Int64)) := by
    rw [dn]
    exact eqL (aL (aL (x := xD S i.toNatClampNeg) rfl f1 p8) y2 p9) ((aL (aL (x := xD S i.toNatClampNeg) rfl hw p10) x2 p11).trans p12)
  have eN : (((xN S i.toNatClampNeg) + ((k - fX2_floor k ((86400000000000 : Int64) / s) * ((86400000000000 : Int64) / s)) * s)) - ((xN S i.toNatClampNeg) + ((k - fX2_floor k ((86400000000000 : Int64) / s) * ((86400000000000 : Int64) / s)) * s)) / (86400000000000 : Int64) * (86400000000000 : Int64)) = fJ9_floorMod_f86c9 (((xN S) i.toNatClampNeg) + r) (86400000000000 : Int64) := eqL y3 (x3.trans p13)
  have hT : TV (fJ9_floorMod_f86c9 (((xN S) i.toNatClampNeg) + r) (86400000000000 : Int64)) := by
    unfold TV
    rw [x3]
    exact ⟨Int.emod_nonneg _ (by decide), Int.emod_lt_of_pos _ (by decide)⟩
  have fin := becomeDay_eq (th := th) hI hi (D := (((xD S) i.toNatClampNeg) + w) + (fJ9_floorDiv_f86c9 (((xN S) i.toNatClampNeg) + r) (86400000000000 : Int64))) hT
  have eR : gX2_onLine (mkM th S) i k s = gX2_becomeDay (mkM th S) i ((fX2_dayNow (mkM th S) i + fX2_floor k ((86400000000000 : Int64) / s)) + (((xN S i.toNatClampNeg) + ((k - fX2_floor k ((86400000000000 : Int64) / s) * ((86400000000000 : Int64) / s)) * s)) / (86400000000000 : Int64))) (((xN S i.toNatClampNeg) + ((k - fX2_floor k ((86400000000000 : Int64) / s) * ((86400000000000 : Int64) / s)) * s)) - ((xN S i.toNatClampNeg) + ((k - fX2_floor k ((86400000000000 : Int64) / s) * ((86400000000000 : Int64) / s)) * s)) / (86400000000000 : Int64) * (86400000000000 : Int64)) := peta
  have eX : gX0_goLine S i w r = gX0_becomeDay S i ((((xD S) i.toNatClampNeg) + w) + (fJ9_floorDiv_f86c9 (((xN S) i.toNatClampNeg) + r) (86400000000000 : Int64))) (fJ9_floorMod_f86c9 (((xN S) i.toNatClampNeg) + r) (86400000000000 : Int64)) := peta
  rw [eR, eX, eD, eN]
  exact fin
