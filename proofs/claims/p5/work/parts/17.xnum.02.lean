theorem fm64 {x c : Int64} {a k : Int} (hx : x.toInt = a) (hc : c.toInt = k) (hk : 0 < k) : (fJ9_floorMod_f86c9 x c).toInt = a % k := by
  have hr := fb_rngL x
  have kl : k ≤ 9223372036854775807 := by have := fb_rngL c; omega
  unfold fJ9_floorMod_f86c9
  rcases Int.le_total 0 a with h | h
  · rw [if_pos ((xsL (by omega)).mpr (by omega))]
    exact rL hx hc h hk
  · by_cases ha : a = 0
    · rw [if_pos ((xsL (by omega)).mpr (by omega))]
      exact rL hx hc (by omega) hk
    rw [if_neg (fun z => absurd ((xsL (by omega)).mp z) (by omega))]
    have h1 := Int.emod_add_mul_ediv (-a) k
    have h2 := Int.emod_nonneg (-a) (Int.ne_of_gt hk)
    have h3 := Int.emod_lt_of_pos (-a) hk
    have h4 := Int.mul_nonneg (Int.le_of_lt hk) (Int.ediv_nonneg (a := -a) (by omega) (Int.le_of_lt hk))
    have e1 := dLn hx hc h hk
    have e2 : ((x / c) * c).toInt = -((-a) / k) * k := mL e1 hc (by rw [Int.neg_mul, Int.mul_comm]; omega)
    have e3 : (x - x / c * c).toInt = a - -((-a) / k) * k := sL hx e2 (by rw [Int.neg_mul, Int.mul_comm]; omega)
    rw [Int.neg_mul, Int.mul_comm] at e3
    have e4 : (x - x / c * c).toInt = -((-a) % k) := by rw [e3]; omega
    have ed := edn (n := -a) hk
    rw [Int.neg_neg] at ed
    by_cases h0 : (-a) % k = 0
    · rw [if_pos (lgc_eq.mpr (by rw [e4, show (0 : Int64).toInt = 0 from by decide]; omega)), e4, (ed.1 h0).2]; omega
    · rw [if_neg (fun z => absurd (lgc_eq.mp z) (by rw [e4, show (0 : Int64).toInt = 0 from by decide]; omega)), (ed.2 h0).2]
      have e5 := aL e4 hc (by omega)
      rw [e5]; omega
theorem fd32 {x c : Int32} {a k : Int} (hx : x.toInt = a) (hc : c.toInt = k) (hk : 0 < k) : (fJ9_floorDiv_7cf53 x c).toInt = a / k := by
  have hr := fb_rng x
  have kl : k ≤ 2147483647 := by have := fb_rng c; omega
  unfold fJ9_floorDiv_7cf53
  rcases Int.le_total 0 a with h | h
  · rw [if_pos ((xsI (by omega)).mpr (by omega))]
    exact dI hx hc h hk
  · by_cases ha : a = 0
    · rw [if_pos ((xsI (by omega)).mpr (by omega))]
      exact dI hx hc (by omega) hk
    rw [if_neg (fun z => absurd ((xsI (by omega)).mp z) (by omega))]
    have h1 := Int.emod_add_mul_ediv (-a) k
    have h2 := Int.emod_nonneg (-a) (Int.ne_of_gt hk)
    have h3 := Int.emod_lt_of_pos (-a) hk
    have h4 := Int.mul_nonneg (Int.le_of_lt hk) (Int.ediv_nonneg (a := -a) (by omega) (Int.le_of_lt hk))
    have e1 : (x / c).toInt = -((-a) / k) := by rw [Int32.toInt_div_of_ne_right _ _ (nm1I hc hk), hx, hc, tdivN h]
    have e2 : ((x / c) * c).toInt = -((-a) / k) * k := mI e1 hc (by rw [Int.neg_mul, Int.mul_comm]; omega)
    rw [Int.neg_mul, Int.mul_comm] at e2
    have ed := edn (n := -a) hk
    rw [Int.neg_neg] at ed
    by_cases h0 : (-a) % k = 0
    · rw [if_pos (Int32.toInt_inj.mp (by rw [e2, hx]; omega)), e1, (ed.1 h0).1]
    · rw [if_neg (fun z => by rw [z, hx] at e2; omega), (ed.2 h0).1]
      have h5 := Int.mul_le_mul_of_nonneg_right (show (1 : Int) ≤ k by omega) (Int.ediv_nonneg (a := -a) (b := k) (by omega) (Int.le_of_lt hk))
      rw [Int.one_mul] at h5
      have h6 : 0 ≤ (-a) / k := Int.ediv_nonneg (by omega) (Int.le_of_lt hk)
      exact sI e1 (show (1 : Int32).toInt = 1 from by decide) (by omega)
/-! the calendar -/
def fd (z : Int) : Int := 365 * z + (z + 3) / 4 - (z + 99) / 100 + (z + 399) / 400
def lp (z : Int) : Prop := z % 4 = 0 ∧ (z % 100 = 0 → z % 400 = 0)
theorem fd_leap {z : Int} (h : lp z) : fd (z + 1) = fd z + 366 := by unfold lp at h; unfold fd; omega
theorem fd_plain {z : Int} (h : ¬ lp z) : fd (z + 1) = fd z + 365 := by unfold lp at h; unfold fd; omega
theorem fd_mono {x y : Int} (h : x ≤ y) : fd x ≤ fd y := by unfold fd; omega
theorem fd_400 (q : Int) : fd (400 * q) = 146097 * q := by unfold fd; omega
theorem fd_one {n x y : Int} (h1 : fd x ≤ n) (h2 : n < fd (x + 1)) (h3 : fd y ≤ n) (h4 : n < fd (y + 1)) : x = y := by
  rcases Int.lt_trichotomy x y with q | q | q
  · have := fd_mono (x := x + 1) (y := y) (by omega); omega
  · exact q
  · have := fd_mono (x := y + 1) (y := x) (by omega); omega
theorem md_0 {y c : Int32} {k : Int} (hc : c.toInt = k) (hk : 0 < k) : (y - y / c * c) = 0 ↔ y.toInt % k = 0 := by
  have hr := fb_rng y
  have kl : k ≤ 2147483647 := by have := fb_rng c; omega
  have z0 : (0 : Int32).toInt = 0 := by decide
  rcases Int.le_total 0 y.toInt with h | h
  · have e := rI (x := y) rfl hc h hk
    rw [← e, ← z0, Int32.toInt_inj]
  · have h1 := Int.emod_add_mul_ediv (-y.toInt) k
    have h2 := Int.emod_nonneg (-y.toInt) (Int.ne_of_gt hk)
    have h3 := Int.emod_lt_of_pos (-y.toInt) hk
    have h4 := Int.mul_nonneg (Int.le_of_lt hk) (Int.ediv_nonneg (a := -y.toInt) (by omega) (Int.le_of_lt hk))
    have e1 : (y / c).toInt = -((-y.toInt) / k) := by rw [Int32.toInt_div_of_ne_right _ _ (nm1I hc hk), hc, tdivN h]
    have e2 : ((y / c) * c).toInt = -((-y.toInt) / k) * k := mI e1 hc (by rw [Int.neg_mul, Int.mul_comm]; omega)
    have e3 : (y - y / c * c).toInt = y.toInt - -((-y.toInt) / k) * k := sI rfl e2 (by rw [Int.neg_mul, Int.mul_comm]; omega)
    rw [Int.neg_mul, Int.mul_comm] at e3
    have ed := edn (n := -y.toInt) hk
    rw [Int.neg_neg] at ed
    rw [← Int32.toInt_inj, z0, e3]
    by_cases h0 : (-y.toInt) % k = 0
    · have := (ed.1 h0).2; omega
    · have := (ed.2 h0).2; omega
