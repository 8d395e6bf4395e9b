/-! numbers of the machine: comparisons, quotients, and what the texts' loops want -/
theorem lgc_cases (x y : Int64) : (x.toInt < y.toInt ∧ lg_cmp x y = -1) ∨ (x.toInt = y.toInt ∧ lg_cmp x y = 0) ∨ (y.toInt < x.toInt ∧ lg_cmp x y = 1) := by
  unfold lg_cmp
  by_cases h1 : x > y
  · rw [if_pos h1]; exact Or.inr (Or.inr ⟨Int64.lt_iff_toInt_lt.mp h1, rfl⟩)
  · rw [if_neg h1]
    by_cases h2 : x = y
    · rw [if_pos h2]; exact Or.inr (Or.inl ⟨by rw [h2], rfl⟩)
    · rw [if_neg h2]
      refine Or.inl ⟨?_, rfl⟩
      have a : ¬ y.toInt < x.toInt := fun h => h1 (Int64.lt_iff_toInt_lt.mpr h)
      have b : ¬ x.toInt = y.toInt := fun h => h2 (Int64.toInt_inj.mp h)
      omega
theorem lgc_lt {x y : Int64} : lg_cmp x y < 0 ↔ x.toInt < y.toInt := by
  rcases lgc_cases x y with ⟨h, e⟩ | ⟨h, e⟩ | ⟨h, e⟩
  · rw [e]; exact ⟨fun _ => h, fun _ => by decide⟩
  · rw [e]; exact ⟨fun z => absurd z (by decide), fun z => absurd z (by omega)⟩
  · rw [e]; exact ⟨fun z => absurd z (by decide), fun z => absurd z (by omega)⟩
theorem lgc_le {x y : Int64} : lg_cmp x y ≤ 0 ↔ x.toInt ≤ y.toInt := by
  rcases lgc_cases x y with ⟨h, e⟩ | ⟨h, e⟩ | ⟨h, e⟩
  · rw [e]; exact ⟨fun _ => by omega, fun _ => by decide⟩
  · rw [e]; exact ⟨fun _ => by omega, fun _ => by decide⟩
  · rw [e]; exact ⟨fun z => absurd z (by decide), fun z => absurd z (by omega)⟩
theorem lgc_gt {x y : Int64} : 0 < lg_cmp x y ↔ y.toInt < x.toInt := by
  rcases lgc_cases x y with ⟨h, e⟩ | ⟨h, e⟩ | ⟨h, e⟩
  · rw [e]; exact ⟨fun z => absurd z (by decide), fun z => absurd z (by omega)⟩
  · rw [e]; exact ⟨fun z => absurd z (by decide), fun z => absurd z (by omega)⟩
  · rw [e]; exact ⟨fun _ => h, fun _ => by decide⟩
theorem lgc_ge {x y : Int64} : 0 ≤ lg_cmp x y ↔ y.toInt ≤ x.toInt := by
  rcases lgc_cases x y with ⟨h, e⟩ | ⟨h, e⟩ | ⟨h, e⟩
  · rw [e]; exact ⟨fun z => absurd z (by decide), fun z => absurd z (by omega)⟩
  · rw [e]; exact ⟨fun _ => by omega, fun _ => by decide⟩
  · rw [e]; exact ⟨fun _ => by omega, fun _ => by decide⟩
theorem lgc_eq {x y : Int64} : lg_cmp x y = 0 ↔ x.toInt = y.toInt := by
  rw [lg_cmp0, Int64.toInt_inj]
theorem tdivN {a : Int} (h : a ≤ 0) (c : Int) : a.tdiv c = -((-a) / c) := by
  have h2 := Int.neg_tdiv (-a) c
  rw [Int.neg_neg] at h2
  rw [h2, Int.tdiv_eq_ediv_of_nonneg (by omega)]
theorem tdivP {a : Int} (h : 0 ≤ a) (c : Int) : a.tdiv c = a / c := Int.tdiv_eq_ediv_of_nonneg h

/-! numbers: conversions to Int -/
theorem aI {x y : Int32} {a b : Int} (hx : x.toInt = a) (hy : y.toInt = b) (h : -2147483648 ≤ a + b ∧ a + b < 2147483648) : (x + y).toInt = a + b := by subst hx; subst hy; exact fb_addI h.1 h.2
theorem sI {x y : Int32} {a b : Int} (hx : x.toInt = a) (hy : y.toInt = b) (h : -2147483648 ≤ a - b ∧ a - b < 2147483648) : (x - y).toInt = a - b := by subst hx; subst hy; exact fb_subI h.1 h.2
theorem mI {x y : Int32} {a b : Int} (hx : x.toInt = a) (hy : y.toInt = b) (h : -2147483648 ≤ a * b ∧ a * b < 2147483648) : (x * y).toInt = a * b := by subst hx; subst hy; exact fb_mulI h.1 h.2
theorem aL {x y : Int64} {a b : Int} (hx : x.toInt = a) (hy : y.toInt = b) (h : -9223372036854775808 ≤ a + b ∧ a + b < 9223372036854775808) : (x + y).toInt = a + b := by subst hx; subst hy; exact fb_addL h.1 h.2
theorem sL {x y : Int64} {a b : Int} (hx : x.toInt = a) (hy : y.toInt = b) (h : -9223372036854775808 ≤ a - b ∧ a - b < 9223372036854775808) : (x - y).toInt = a - b := by subst hx; subst hy; exact fb_subL h.1 h.2
theorem mL {x y : Int64} {a b : Int} (hx : x.toInt = a) (hy : y.toInt = b) (h : -9223372036854775808 ≤ a * b ∧ a * b < 9223372036854775808) : (x * y).toInt = a * b := by subst hx; subst hy; exact fb_mulL h.1 h.2
theorem gL {x : Int64} {a : Int} (hx : x.toInt = a) (h : -9223372036854775808 < a) : (-x).toInt = -a := by
  subst hx
  have := fb_rngL x
  rw [Int64.toInt_neg, fb_bmodL (by omega) (by omega)]
theorem oL {x : Int32} {a : Int} (hx : x.toInt = a) : (x.toInt64).toInt = a := by rw [Int32.toInt_toInt64]; exact hx
theorem oI {x : Int64} {a : Int} (hx : x.toInt = a) (h : -2147483648 ≤ a ∧ a < 2147483648) : (x.toInt32).toInt = a := by rw [Int64.toInt_toInt32, hx, fb_bmod h.1 h.2]
theorem eqI {x y : Int32} {a : Int} (hx : x.toInt = a) (hy : y.toInt = a) : x = y := Int32.toInt_inj.mp (hx.trans hy.symm)
theorem eqL {x y : Int64} {a : Int} (hx : x.toInt = a) (hy : y.toInt = a) : x = y := Int64.toInt_inj.mp (hx.trans hy.symm)
theorem nm1L {c : Int64} {k : Int} (hc : c.toInt = k) (hk : 0 < k) : c ≠ -1 := fun h => by
  rw [h] at hc
  have : (-1 : Int64).toInt = -1 := by decide
  omega
theorem nm1I {c : Int32} {k : Int} (hc : c.toInt = k) (hk : 0 < k) : c ≠ -1 := fun h => by
  rw [h] at hc
  have : (-1 : Int32).toInt = -1 := by decide
  omega
theorem dL {x c : Int64} {a k : Int} (hx : x.toInt = a) (hc : c.toInt = k) (h0 : 0 ≤ a) (hk : 0 < k) : (x / c).toInt = a / k := by
  rw [Int64.toInt_div_of_ne_right _ _ (nm1L hc hk), hx, hc, tdivP h0]
theorem dLn {x c : Int64} {a k : Int} (hx : x.toInt = a) (hc : c.toInt = k) (h0 : a ≤ 0) (hk : 0 < k) : (x / c).toInt = -((-a) / k) := by
  rw [Int64.toInt_div_of_ne_right _ _ (nm1L hc hk), hx, hc, tdivN h0]
theorem rL {x c : Int64} {a k : Int} (hx : x.toInt = a) (hc : c.toInt = k) (h0 : 0 ≤ a) (hk : 0 < k) : (x - x / c * c).toInt = a % k := by
  have hr := fb_rngL x
  have h1 := Int.emod_add_mul_ediv a k
  have h2 := Int.emod_nonneg a (Int.ne_of_gt hk)
  have h3 := Int.emod_lt_of_pos a hk
  have h4 := Int.ediv_nonneg h0 (Int.le_of_lt hk)
  have e1 : (x / c * c).toInt = a / k * k := mL (dL hx hc h0 hk) hc (by rw [Int.mul_comm]; have := Int.mul_nonneg (Int.le_of_lt hk) h4; omega)
  rw [sL hx e1 (by rw [Int.mul_comm]; have := Int.mul_nonneg (Int.le_of_lt hk) h4; omega), Int.mul_comm]
  omega
theorem dI {x c : Int32} {a k : Int} (hx : x.toInt = a) (hc : c.toInt = k) (h0 : 0 ≤ a) (hk : 0 < k) : (x / c).toInt = a / k := by
  rw [Int32.toInt_div_of_ne_right _ _ (nm1I hc hk), hx, hc, tdivP h0]
theorem rI {x c : Int32} {a k : Int} (hx : x.toInt = a) (hc : c.toInt = k) (h0 : 0 ≤ a) (hk : 0 < k) : (x - x / c * c).toInt = a % k := by
  have hr := fb_rng x
  have h1 := Int.emod_add_mul_ediv a k
  have h2 := Int.emod_nonneg a (Int.ne_of_gt hk)
  have h3 := Int.emod_lt_of_pos a hk
  have h4 := Int.ediv_nonneg h0 (Int.le_of_lt hk)
  have e1 : (x / c * c).toInt = a / k * k := mI (dI hx hc h0 hk) hc (by rw [Int.mul_comm]; have := Int.mul_nonneg (Int.le_of_lt hk) h4; omega)
  rw [sI hx e1 (by rw [Int.mul_comm]; have := Int.mul_nonneg (Int.le_of_lt hk) h4; omega), Int.mul_comm]
  omega
/-- the floor of a number below 0 -/
theorem edn {n b : Int} (hb : 0 < b) : (n % b = 0 → (-n) / b = -(n / b) ∧ (-n) % b = 0) ∧ (n % b ≠ 0 → (-n) / b = -(n / b) - 1 ∧ (-n) % b = b - n % b) := by
  have h1 := Int.emod_add_mul_ediv n b
  have h2 := Int.emod_nonneg n (Int.ne_of_gt hb)
  have h3 := Int.emod_lt_of_pos n hb
  refine ⟨fun h => (Int.ediv_emod_unique hb).mpr ⟨?_, by omega, hb⟩, fun h => (Int.ediv_emod_unique hb).mpr ⟨?_, by omega, by omega⟩⟩
  · rw [Int.mul_neg]; omega
  · rw [Int.mul_sub, Int.mul_neg, Int.mul_one]; omega
theorem fl2 {x c : Int64} {a k : Int} (hx : x.toInt = a) (hc : c.toInt = k) (hk : 0 < k) : (fX2_floor x c).toInt = a / k := by
  have hr := fb_rngL x
  have kl : k ≤ 9223372036854775807 := by have := fb_rngL c; omega
  unfold fX2_floor
  rcases Int.le_total 0 a with h | h
  · have h1 := Int.emod_add_mul_ediv a k
    have h2 := Int.emod_nonneg a (Int.ne_of_gt hk)
    have h4 := Int.mul_nonneg (Int.le_of_lt hk) (Int.ediv_nonneg h (Int.le_of_lt hk))
    have e2 : ((x / c) * c).toInt = a / k * k := mL (dL hx hc h hk) hc (by rw [Int.mul_comm]; omega)
    rw [Int.mul_comm] at e2
    rw [if_pos (lgc_le.mpr (by rw [e2]; omega))]
    exact dL hx hc h hk
  · have h1 := Int.emod_add_mul_ediv (-a) k
    have h2 := Int.emod_nonneg (-a) (Int.ne_of_gt hk)
    have h3 := Int.emod_lt_of_pos (-a) hk
    have h4 := Int.mul_nonneg (Int.le_of_lt hk) (Int.ediv_nonneg (a := -a) (by omega) (Int.le_of_lt hk))
    have e1 := dLn hx hc h hk
    have e2 : ((x / c) * c).toInt = -((-a) / k) * k := mL e1 hc (by rw [Int.neg_mul, Int.mul_comm]; omega)
    rw [Int.neg_mul, Int.mul_comm] at e2
    have ed := edn (n := -a) hk
    rw [Int.neg_neg] at ed
    by_cases h0 : (-a) % k = 0
    · rw [if_pos (lgc_le.mpr (by rw [e2]; omega)), e1, (ed.1 h0).1]
    · rw [if_neg (fun z => absurd (lgc_le.mp z) (by rw [e2]; omega)), (ed.2 h0).1]
      have h5 := Int.mul_le_mul_of_nonneg_right (show (1 : Int) ≤ k by omega) (Int.ediv_nonneg (a := -a) (b := k) (by omega) (Int.le_of_lt hk))
      rw [Int.one_mul] at h5
      have h6 : 0 ≤ (-a) / k := Int.ediv_nonneg (by omega) (Int.le_of_lt hk)
      exact sL e1 (show (1 : Int64).toInt = 1 from by decide) (by omega)
theorem xsL {x c : Int64} (hc : 0 ≤ c.toInt) : 0 ≤ lg_cmp (x ^^^ c) (0 : Int64) ↔ 0 ≤ x.toInt := by
  have h : ∀ x : Int64, 0 ≤ x.toInt ↔ x.toBitVec.msb = false := fun x => by
    rw [BitVec.msb_eq_toInt]
    show 0 ≤ x.toBitVec.toInt ↔ _
    simp
  rw [lgc_ge, show (0 : Int64).toInt = 0 from by decide, h, h, Int64.toBitVec_xor, BitVec.msb_xor, (h c).mp hc]
  simp
theorem xsI {x c : Int32} (hc : 0 ≤ c.toInt) : 0 ≤ (x ^^^ c) ↔ 0 ≤ x.toInt := by
  have h : ∀ x : Int32, 0 ≤ x.toInt ↔ x.toBitVec.msb = false := fun x => by
    rw [BitVec.msb_eq_toInt]
    show 0 ≤ x.toBitVec.toInt ↔ _
    simp
  rw [Int32.le_iff_toInt_le, show (0 : Int32).toInt = 0 from by decide, h, h, Int32.toBitVec_xor, BitVec.msb_xor, (h c).mp hc]
  simp
theorem fd64 {x c : Int64} {a k : Int} (hx : x.toInt = a) (hc : c.toInt = k) (hk : 0 < k) : (fJ9_floorDiv_f86c9 x c).toInt = a / k := by
  have hr := fb_rngL x
  have kl : k ≤ 9223372036854775807 := by have := fb_rngL c; omega
  unfold fJ9_floorDiv_f86c9
  rcases Int.le_total 0 a with h | h
  · rw [if_pos ((xsL (by omega)).mpr (by omega))]
    exact dL hx hc h hk
  · by_cases ha : a = 0
    · rw [if_pos ((xsL (by omega)).mpr (by omega))]
      exact dL hx hc (by omega) hk
    rw [if_neg (fun z => absurd ((xsL (by omega)).mp z) (by omega))]
    have h1 := Int.emod_add_mul_ediv (-a) k
    have h2 := Int.emod_nonneg (-a) (Int.ne_of_gt hk)
    have h3 := Int.emod_lt_of_pos (-a) hk
    have h4 := Int.mul_nonneg (Int.le_of_lt hk) (Int.ediv_nonneg (a := -a) (by omega) (Int.le_of_lt hk))
    have e1 := dLn hx hc h hk
    have e2 : ((x / c) * c).toInt = -((-a) / k) * k := mL e1 hc (by rw [Int.neg_mul, Int.mul_comm]; omega)
    rw [Int.neg_mul, Int.mul_comm] at e2
    have ed := edn (n := -a) hk
    rw [Int.neg_neg] at ed
    by_cases h0 : (-a) % k = 0
    · rw [if_pos (lgc_eq.mpr (by rw [e2]; omega)), e1, (ed.1 h0).1]
    · rw [if_neg (fun z => absurd (lgc_eq.mp z) (by rw [e2]; omega)), (ed.2 h0).1]
      have h5 := Int.mul_le_mul_of_nonneg_right (show (1 : Int) ≤ k by omega) (Int.ediv_nonneg (a := -a) (b := k) (by omega) (Int.le_of_lt hk))
      rw [Int.one_mul] at h5
      have h6 : 0 ≤ (-a) / k := Int.ediv_nonneg (by omega) (Int.le_of_lt hk)
      exact sL e1 (show (1 : Int64).toInt = 1 from by decide) (by omega)
theorem fm64 {x c : Int64} {a k : Int} (hx : x.toInt = a) (hc : c.toInt = k) (hk : 0 < k) : (fJ9_floorMod_f86c9 x c).toInt = a % k := by
  have hr := fb_rngL x
  have kl : k ≤ 9223372036854775807 := by have := fb_rngL c; omega
  unfold fJ9_floorMod_f86c9
  rcases Int.le_total 0 a with h | h
  · rw [if_pos ((xsL (by omega)).mpr (by omega))]
    exact rL hx hc h hk
  · by_cases ha : a = 0
    · rw [if_pos ((xsL (by omega)).mpr (by omega))]
      exact rL hx hc (by omega) hk
    rw [if_neg (fun z => absurd ((xsL (by omega)).mp z) (by omega))]
    have h1 := Int.emod_add_mul_ediv (-a) k
    have h2 := Int.emod_nonneg (-a) (Int.ne_of_gt hk)
    have h3 := Int.emod_lt_of_pos (-a) hk
    have h4 := Int.mul_nonneg (Int.le_of_lt hk) (Int.ediv_nonneg (a := -a) (by omega) (Int.le_of_lt hk))
    have e1 := dLn hx hc h hk
    have e2 : ((x / c) * c).toInt = -((-a) / k) * k := mL e1 hc (by rw [Int.neg_mul, Int.mul_comm]; omega)
    have e3 : (x - x / c * c).toInt = a - -((-a) / k) * k := sL hx e2 (by rw [Int.neg_mul, Int.mul_comm]; omega)
    rw [Int.neg_mul, Int.mul_comm] at e3
    have e4 : (x - x / c * c).toInt = -((-a) % k) := by rw [e3]; omega
    have ed := edn (n := -a) hk
    rw [Int.neg_neg] at ed
    by_cases h0 : (-a) % k = 0
    · rw [if_pos (lgc_eq.mpr (by rw [e4, show (0 : Int64).toInt = 0 from by decide]; omega)), e4, (ed.1 h0).2]; omega
    · rw [if_neg (fun z => absurd (lgc_eq.mp z) (by rw [e4, show (0 : Int64).toInt = 0 from by decide]; omega)), (ed.2 h0).2]
      have e5 := aL e4 hc (by omega)
      rw [e5]; omega
theorem fd32 {x c : Int32} {a k : Int} (hx : x.toInt = a) (hc : c.toInt = k) (hk : 0 < k) : (fJ9_floorDiv_7cf53 x c).toInt = a / k := by
  have hr := fb_rng x
  have kl : k ≤ 2147483647 := by have := fb_rng c; omega
  unfold fJ9_floorDiv_7cf53
  rcases Int.le_total 0 a with h | h
  · rw [if_pos ((xsI (by omega)).mpr (by omega))]
    exact dI hx hc h hk
  · by_cases ha : a = 0
    · rw [if_pos ((xsI (by omega)).mpr (by omega))]
      exact dI hx hc (by omega) hk
    rw [if_neg (fun z => absurd ((xsI (by omega)).mp z) (by omega))]
    have h1 := Int.emod_add_mul_ediv (-a) k
    have h2 := Int.emod_nonneg (-a) (Int.ne_of_gt hk)
    have h3 := Int.emod_lt_of_pos (-a) hk
    have h4 := Int.mul_nonneg (Int.le_of_lt hk) (Int.ediv_nonneg (a := -a) (by omega) (Int.le_of_lt hk))
    have e1 : (x / c).toInt = -((-a) / k) := by rw [Int32.toInt_div_of_ne_right _ _ (nm1I hc hk), hx, hc, tdivN h]
    have e2 : ((x / c) * c).toInt = -((-a) / k) * k := mI e1 hc (by rw [Int.neg_mul, Int.mul_comm]; omega)
    rw [Int.neg_mul, Int.mul_comm] at e2
    have ed := edn (n := -a) hk
    rw [Int.neg_neg] at ed
    by_cases h0 : (-a) % k = 0
    · rw [if_pos (Int32.toInt_inj.mp (by rw [e2, hx]; omega)), e1, (ed.1 h0).1]
    · rw [if_neg (fun z => by rw [z, hx] at e2; omega), (ed.2 h0).1]
      have h5 := Int.mul_le_mul_of_nonneg_right (show (1 : Int) ≤ k by omega) (Int.ediv_nonneg (a := -a) (b := k) (by omega) (Int.le_of_lt hk))
      rw [Int.one_mul] at h5
      have h6 : 0 ≤ (-a) / k := Int.ediv_nonneg (by omega) (Int.le_of_lt hk)
      exact sI e1 (show (1 : Int32).toInt = 1 from by decide) (by omega)
/-! the calendar -/
def fd (z : Int) : Int := 365 * z + (z + 3) / 4 - (z + 99) / 100 + (z + 399) / 400
def lp (z : Int) : Prop := z % 4 = 0 ∧ (z % 100 = 0 → z % 400 = 0)
theorem fd_leap {z : Int} (h : lp z) : fd (z + 1) = fd z + 366 := by unfold lp at h; unfold fd; omega
theorem fd_plain {z : Int} (h : ¬ lp z) : fd (z + 1) = fd z + 365 := by unfold lp at h; unfold fd; omega
theorem fd_mono {x y : Int} (h : x ≤ y) : fd x ≤ fd y := by unfold fd; omega
theorem fd_400 (q : Int) : fd (400 * q) = 146097 * q := by unfold fd; omega
theorem fd_one {n x y : Int} (h1 : fd x ≤ n) (h2 : n < fd (x + 1)) (h3 : fd y ≤ n) (h4 : n < fd (y + 1)) : x = y := by
  rcases Int.lt_trichotomy x y with q | q | q
  · have := fd_mono (x := x + 1) (y := y) (by omega); omega
  · exact q
  · have := fd_mono (x := y + 1) (y := x) (by omega); omega
theorem md_0 {y c : Int32} {k : Int} (hc : c.toInt = k) (hk : 0 < k) : (y - y / c * c) = 0 ↔ y.toInt % k = 0 := by
  have hr := fb_rng y
  have kl : k ≤ 2147483647 := by have := fb_rng c; omega
  have z0 : (0 : Int32).toInt = 0 := by decide
  rcases Int.le_total 0 y.toInt with h | h
  · have e := rI (x := y) rfl hc h hk
    rw [← e, ← z0, Int32.toInt_inj]
  · have h1 := Int.emod_add_mul_ediv (-y.toInt) k
    have h2 := Int.emod_nonneg (-y.toInt) (Int.ne_of_gt hk)
    have h3 := Int.emod_lt_of_pos (-y.toInt) hk
    have h4 := Int.mul_nonneg (Int.le_of_lt hk) (Int.ediv_nonneg (a := -y.toInt) (by omega) (Int.le_of_lt hk))
    have e1 : (y / c).toInt = -((-y.toInt) / k) := by rw [Int32.toInt_div_of_ne_right _ _ (nm1I hc hk), hc, tdivN h]
    have e2 : ((y / c) * c).toInt = -((-y.toInt) / k) * k := mI e1 hc (by rw [Int.neg_mul, Int.mul_comm]; omega)
    have e3 : (y - y / c * c).toInt = y.toInt - -((-y.toInt) / k) * k := sI rfl e2 (by rw [Int.neg_mul, Int.mul_comm]; omega)
    rw [Int.neg_mul, Int.mul_comm] at e3
    have ed := edn (n := -y.toInt) hk
    rw [Int.neg_neg] at ed
    rw [← Int32.toInt_inj, z0, e3]
    by_cases h0 : (-y.toInt) % k = 0
    · have := (ed.1 h0).2; omega
    · have := (ed.2 h0).2; omega
theorem leap0 (y : Int32) : (lp y.toInt ∧ fX0_isLeapYear y = 1) ∨ (¬ lp y.toInt ∧ fX0_isLeapYear y = 0) := by
  have m4 := md_0 (y := y) (c := 4) (k := 4) (by decide) (by decide)
  have m1 := md_0 (y := y) (c := 100) (k := 100) (by decide) (by decide)
  have m0 := md_0 (y := y) (c := 400) (k := 400) (by decide) (by decide)
  unfold fX0_isLeapYear lp
  by_cases h4 : (y - y / (4 : Int32) * (4 : Int32)) = 0
  · rw [if_pos h4]
    have g4 := m4.mp h4
    by_cases h1 : (y - y / (100 : Int32) * (100 : Int32)) = 0
    · rw [if_pos h1]
      have g1 := m1.mp h1
      by_cases h0 : (y - y / (400 : Int32) * (400 : Int32)) = 0
      · rw [if_pos h0]; exact Or.inl ⟨⟨g4, fun _ => m0.mp h0⟩, rfl⟩
      · rw [if_neg h0]; exact Or.inr ⟨fun z => h0 (m0.mpr (z.2 g1)), rfl⟩
    · rw [if_neg h1]; exact Or.inl ⟨⟨g4, fun z => absurd (m1.mpr z) h1⟩, rfl⟩
  · rw [if_neg h4]; exact Or.inr ⟨fun z => h4 (m4.mpr z.1), rfl⟩
theorem leap2 (y : Int32) : (lp y.toInt ∧ fX2_isLeapYear y = 1) ∨ (¬ lp y.toInt ∧ fX2_isLeapYear y = 0) := by
  have m4 := md_0 (y := y) (c := 4) (k := 4) (by decide) (by decide)
  have m1 := md_0 (y := y) (c := 100) (k := 100) (by decide) (by decide)
  have m0 := md_0 (y := y) (c := 400) (k := 400) (by decide) (by decide)
  unfold fX2_isLeapYear lp
  by_cases h0 : (y - y / (400 : Int32) * (400 : Int32)) = 0
  · rw [if_pos h0]
    have g0 := m0.mp h0
    exact Or.inl ⟨⟨by omega, fun _ => g0⟩, rfl⟩
  · rw [if_neg h0]
    have g0 : ¬ y.toInt % 400 = 0 := fun z => h0 (m0.mpr z)
    by_cases h4 : (y - y / (4 : Int32) * (4 : Int32)) = 0
    · rw [if_pos h4]
      have g4 := m4.mp h4
      by_cases h1 : (y - y / (100 : Int32) * (100 : Int32)) = 0
      · rw [if_pos h1]; exact Or.inr ⟨fun z => g0 (z.2 (m1.mp h1)), rfl⟩
      · rw [if_neg h1]; exact Or.inl ⟨⟨g4, fun z => absurd (m1.mpr z) h1⟩, rfl⟩
    · rw [if_neg h4]; exact Or.inr ⟨fun z => h4 (m4.mpr z.1), rfl⟩
theorem leap_eq (y : Int32) : fX2_isLeapYear y = fX0_isLeapYear y := by
  rcases leap0 y with ⟨h, e⟩ | ⟨h, e⟩ <;> rcases leap2 y with ⟨g, f⟩ | ⟨g, f⟩
  · rw [e, f]
  · exact absurd h g
  · exact absurd g h
  · rw [e, f]
def MN (m : Int32) : Prop := 1 ≤ m.toInt ∧ m.toInt ≤ 12
def YR (y : Int32) : Prop := -9999 ≤ y.toInt ∧ y.toInt ≤ 9999
theorem mn_cases {m : Int32} (h : MN m) : m = 1 ∨ m = 2 ∨ m = 3 ∨ m = 4 ∨ m = 5 ∨ m = 6 ∨ m = 7 ∨ m = 8 ∨ m = 9 ∨ m = 10 ∨ m = 11 ∨ m = 12 := by
  obtain ⟨h1, h2⟩ := h
  have e : ∀ z : Int, m.toInt = z → m = Int32.ofInt z := fun z q => by rw [← q, Int32.ofInt_toInt]
  have c : m.toInt = 1 ∨ m.toInt = 2 ∨ m.toInt = 3 ∨ m.toInt = 4 ∨ m.toInt = 5 ∨ m.toInt = 6 ∨ m.toInt = 7 ∨ m.toInt = 8 ∨ m.toInt = 9 ∨ m.toInt = 10 ∨ m.toInt = 11 ∨ m.toInt = 12 := by omega
  rcases c with c | c | c | c | c | c | c | c | c | c | c | c <;> have e2 := e _ c <;> subst e2 <;> decide
theorem len_eq {y m : Int32} (h : MN m) : fX2_daysOf y m = fX0_monthLength y m := by
  unfold fX2_daysOf fX0_monthLength
  rw [leap_eq]
  by_cases h2 : m = (2 : Int32)
  · rw [if_pos h2, if_pos h2]
  · rw [if_neg h2, if_neg h2]
    clear h2
    rcases mn_cases h with rfl | rfl | rfl | rfl | rfl | rfl | rfl | rfl | rfl | rfl | rfl | rfl <;> decide +kernel
theorem len_rng {y m : Int32} : 28 ≤ (fX0_monthLength y m).toInt ∧ (fX0_monthLength y m).toInt ≤ 31 := by
  unfold fX0_monthLength
  repeat' split
  all_goals decide
theorem ylen_eq (y : Int32) : fX2_daysOf_ y = fX0_yearLength y := by
  unfold fX2_daysOf_ fX0_yearLength
  rw [leap_eq]
theorem ylen_fd (y : Int32) : (fX0_yearLength y).toInt = fd (y.toInt + 1) - fd y.toInt := by
  unfold fX0_yearLength
  rcases leap0 y with ⟨h, e⟩ | ⟨h, e⟩
  · rw [e, if_neg (by decide), fd_leap h]; show (366 : Int) = _; omega
  · rw [e, if_pos rfl, fd_plain h]; show (365 : Int) = _; omega
/-- the days of a year ahead of a month: equal to the reference's sum -/
theorem in_eq {y m d : Int32} (h : MN m) : fX2_inYear y m d = fX0_daysAhead y m + d := by
  have hl : fX0_isLeapYear y = 1 ∨ fX0_isLeapYear y = 0 := by rcases leap0 y with ⟨-, e⟩ | ⟨-, e⟩ <;> simp [e]
  rw [Int32.add_comm]
  rcases mn_cases h with rfl | rfl | rfl | rfl | rfl | rfl | rfl | rfl | rfl | rfl | rfl | rfl <;> rcases hl with hl | hl <;> unfold fX2_inYear fX0_daysAhead <;> simp only [fX2_daysOf, leap_eq, hl] <;> simp <;> simp only [Int32.add_assoc] <;> rfl
theorem ahead_rng {y m : Int32} (h : MN m) : 0 ≤ (fX0_daysAhead y m).toInt ∧ (fX0_daysAhead y m).toInt ≤ 335 := by
  have hl : fX0_isLeapYear y = 1 ∨ fX0_isLeapYear y = 0 := by rcases leap0 y with ⟨-, e⟩ | ⟨-, e⟩ <;> simp [e]
  rcases mn_cases h with rfl | rfl | rfl | rfl | rfl | rfl | rfl | rfl | rfl | rfl | rfl | rfl <;> rcases hl with hl | hl <;> unfold fX0_daysAhead <;> rw [hl] <;> decide
theorem first_fd {y : Int32} (h : -11000 ≤ y.toInt ∧ y.toInt ≤ 11000) : (fX0_firstDayOf y).toInt = fd y.toInt - 719528 := by
  unfold fX0_firstDayOf fd
  have e1 := fd32 (aI (x := y) (y := 3) rfl (show (3 : Int32).toInt = 3 from by decide) (by omega)) (show (4 : Int32).toInt = 4 from by decide) (by decide)
  have e2 := fd32 (aI (x := y) (y := 99) rfl (show (99 : Int32).toInt = 99 from by decide) (by omega)) (show (100 : Int32).toInt = 100 from by decide) (by decide)
  have e3 := fd32 (aI (x := y) (y := 399) rfl (show (399 : Int32).toInt = 399 from by decide) (by omega)) (show (400 : Int32).toInt = 400 from by decide) (by decide)
  have e4 := aI (sI e1 e2 (by omega)) e3 (by omega)
  have e5 := mL (show (365 : Int64).toInt = 365 from by decide) (oL (x := y) rfl) (by omega)
  rw [sL (aL e5 (oL e4) (by omega)) (show (719528 : Int64).toInt = 719528 from by decide) (by omega)]
  omega
theorem ahead_fd {x : Int64} {z : Int} (hx : x.toInt = z) (h : -11000 ≤ z ∧ z ≤ 11000) : (fX2_ahead x).toInt = fd z := by
  unfold fX2_ahead fd
  have e1 := fl2 (aL hx (show (3 : Int64).toInt = 3 from by decide) (by omega)) (show (4 : Int64).toInt = 4 from by decide) (by decide)
  have e2 := fl2 (aL hx (show (99 : Int64).toInt = 99 from by decide) (by omega)) (show (100 : Int64).toInt = 100 from by decide) (by decide)
  have e3 := fl2 (aL hx (show (399 : Int64).toInt = 399 from by decide) (by omega)) (show (400 : Int64).toInt = 400 from by decide) (by decide)
  have e5 := mL (show (365 : Int64).toInt = 365 from by decide) hx (by omega)
  exact aL (sL (aL e5 e1 (by omega)) e2 (by omega)) e3 (by omega)
theorem ahead_1970 : fX2_ahead (1970 : Int64) = 719528 := by decide +kernel
theorem dayOf_fd {y m d : Int32} (hy : -11000 ≤ y.toInt ∧ y.toInt ≤ 11000) (hm : MN m) (hd : 0 ≤ d.toInt ∧ d.toInt ≤ 400) : (fX0_dayOf y m d).toInt = fd y.toInt - 719528 + (fX0_daysAhead y m).toInt + d.toInt - 1 := by
  have ha := ahead_rng (y := y) hm
  have hf : -5000000 < fd y.toInt ∧ fd y.toInt < 5000000 := by unfold fd; omega
  unfold fX0_dayOf
  exact sL (aL (aL (first_fd hy) (oL rfl) (by omega)) (oL rfl) (by omega)) (show (1 : Int64).toInt = 1 from by decide) (by omega)
theorem dayOf_eq {y m d : Int32} (hy : -11000 ≤ y.toInt ∧ y.toInt ≤ 11000) (hm : MN m) (hd : 0 ≤ d.toInt ∧ d.toInt ≤ 400) : fX2_dayOf y m d = fX0_dayOf y m d := by
  have ha := ahead_rng (y := y) hm
  have hf : -5000000 < fd y.toInt ∧ fd y.toInt < 5000000 := by unfold fd; omega
  refine eqL ?_ (dayOf_fd hy hm hd)
  unfold fX2_dayOf
  rw [ahead_1970, in_eq hm]
  have e1 := aI (x := fX0_daysAhead y m) (y := d) rfl rfl (by omega)
  rw [sL (aL (sL (ahead_fd (oL (x := y) rfl) hy) (show (719528 : Int64).toInt = 719528 from by decide) (by omega)) (oL e1) (by omega)) (show (1 : Int64).toInt = 1 from by decide) (by omega)]
  omega
theorem wk_eq {D : Int64} (h : -10000000 ≤ D.toInt ∧ D.toInt ≤ 10000000) : fX2_weekDay D = fX0_weekday D := by
  unfold fX2_weekDay fX0_weekday
  have e1 := aL (x := D) rfl (show (3 : Int64).toInt = 3 from by decide) (by omega)
  have e2 := fl2 e1 (show (7 : Int64).toInt = 7 from by decide) (by decide)
  have e3 := sL e1 (mL (show (7 : Int64).toInt = 7 from by decide) e2 (by omega)) (by omega)
  have e4 := fm64 e1 (show (7 : Int64).toInt = 7 from by decide) (by decide)
  have : (((D + 3) - (7 * fX2_floor (D + 3) 7)).toInt32) = (fJ9_floorMod_f86c9 (D + 3) 7).toInt32 := by
    refine eqI (oI e3 (by omega)) ?_
    rw [oI e4 (by omega)]
    omega
  rw [this]

/-! a day's date: both ways lead to the same -/
theorem dYl_spec : ∀ (n : Nat) (r : Int64) (y : Int32), 0 ≤ r.toInt → r.toInt < 4000000000 → -10500 ≤ y.toInt → y.toInt + n ≤ 10999 → r.toInt + fd y.toInt < fd (y.toInt + n) → dYok n r y ∧ 0 ≤ (dYl n r y).1.toInt ∧ (dYl n r y).1.toInt < fd ((dYl n r y).2.toInt + 1) - fd (dYl n r y).2.toInt ∧ (dYl n r y).1.toInt + fd (dYl n r y).2.toInt = r.toInt + fd y.toInt := by
  intro n
  induction n with
  | zero =>
    intro r y h1 h2 h3 h4 h5
    exfalso
    rw [show y.toInt + ((0 : Nat) : Int) = y.toInt by omega] at h5
    omega
  | succ n ih =>
    intro r y h1 h2 h3 h4 h5
    have hy : (fX2_daysOf_ y).toInt = fd (y.toInt + 1) - fd y.toInt := by rw [ylen_eq, ylen_fd]
    have hp : fd (y.toInt + 1) - fd y.toInt = 365 ∨ fd (y.toInt + 1) - fd y.toInt = 366 := by
      by_cases q : lp y.toInt
      · right; rw [fd_leap q]; omega
      · left; rw [fd_plain q]; omega
    by_cases hc : lg_cmp r (fX2_daysOf_ y).toInt64 < 0
    · have e : dYl (n + 1) r y = (r, y) := if_pos hc
      have h6 := lgc_lt.mp hc
      rw [oL hy] at h6
      rw [e]
      exact ⟨fun z => absurd hc z, h1, h6, rfl⟩
    · have e : dYl (n + 1) r y = dYl n (r - (fX2_daysOf_ y).toInt64) (y + 1) := if_neg hc
      have h6 : ¬ r.toInt < fd (y.toInt + 1) - fd y.toInt := fun z => hc (lgc_lt.mpr (by rw [oL hy]; exact z))
      have e1 : (r - (fX2_daysOf_ y).toInt64).toInt = r.toInt - (fd (y.toInt + 1) - fd y.toInt) := sL rfl (oL hy) (by omega)
      have e2 : (y + 1).toInt = y.toInt + 1 := aI rfl (show (1 : Int32).toInt = 1 from by decide) (by omega)
      have h7 := ih (r - (fX2_daysOf_ y).toInt64) (y + 1) (by rw [e1]; omega) (by rw [e1]; omega) (by rw [e2]; omega) (by rw [e2]; omega) (by rw [e1, e2, show y.toInt + 1 + (n : Int) = y.toInt + ((n + 1 : Nat) : Int) by omega]; omega)
      rw [e]
      refine ⟨fun _ => h7.1, h7.2.1, h7.2.2.1, ?_⟩
      rw [h7.2.2.2, e1, e2]
      omega
def dMb : Nat → Int64 → Int32 → Int32 → Bool
  | 0, _, _, _ => false
  | n + 1, r, y, m => if lg_cmp r (fX2_daysOf y m).toInt64 < 0 then true else dMb n (r - (fX2_daysOf y m).toInt64) y (m + 1)
theorem dMb_ok : ∀ (n : Nat) (r : Int64) (y m : Int32), dMb n r y m = true → dMok n r y m := by
  intro n
  induction n with
  | zero => intro r y m h; exact (Bool.false_ne_true h).elim
  | succ n ih =>
    intro r y m h hc
    have e : dMb (n + 1) r y m = dMb n (r - (fX2_daysOf y m).toInt64) y (m + 1) := if_neg hc
    rw [e] at h
    exact ih _ _ _ h
theorem daysOf_c {y z : Int32} (h : fX0_isLeapYear y = fX0_isLeapYear z) (m : Int32) : fX2_daysOf y m = fX2_daysOf z m := by
  unfold fX2_daysOf
  rw [leap_eq, leap_eq, h]
theorem dMb_c {y z : Int32} (h : fX0_isLeapYear y = fX0_isLeapYear z) : ∀ (n : Nat) (r : Int64) (m : Int32), dMb n r y m = dMb n r z m := by
  intro n
  induction n with
  | zero => intro r m; rfl
  | succ n ih =>
    intro r m
    show (if lg_cmp r (fX2_daysOf y m).toInt64 < 0 then true else dMb n (r - (fX2_daysOf y m).toInt64) y (m + 1)) = (if lg_cmp r (fX2_daysOf z m).toInt64 < 0 then true else dMb n (r - (fX2_daysOf z m).toInt64) z (m + 1))
    rw [daysOf_c h, ih]
theorem dMl_c {y z : Int32} (h : fX0_isLeapYear y = fX0_isLeapYear z) : ∀ (n : Nat) (r : Int64) (m : Int32), dMl n r y m = dMl n r z m := by
  intro n
  induction n with
  | zero => intro r m; rfl
  | succ n ih =>
    intro r m
    show (if lg_cmp r (fX2_daysOf y m).toInt64 < 0 then (r, m) else dMl n (r - (fX2_daysOf y m).toInt64) y (m + 1)) = (if lg_cmp r (fX2_daysOf z m).toInt64 < 0 then (r, m) else dMl n (r - (fX2_daysOf z m).toInt64) z (m + 1))
    rw [daysOf_c h, ih]
theorem daysAhead_c {y z : Int32} (h : fX0_isLeapYear y = fX0_isLeapYear z) (m : Int32) : fX0_daysAhead y m = fX0_daysAhead z m := by
  unfold fX0_daysAhead
  rw [h]
theorem monthLength_c {y z : Int32} (h : fX0_isLeapYear y = fX0_isLeapYear z) (m : Int32) : fX0_monthLength y m = fX0_monthLength z m := by
  unfold fX0_monthLength
  rw [h]
theorem monthOf_c {y z : Int32} (h : fX0_isLeapYear y = fX0_isLeapYear z) (d : Int32) : fX0_monthOf y d = fX0_monthOf z d := by
  unfold fX0_monthOf
  simp only [daysAhead_c h]
/-- what is to be seen of one day of a year -/
def okD (y : Int32) (j : Nat) : Bool :=
  dMb 13 (Int64.ofNat j) y 1 && decide ((dMl 13 (Int64.ofNat j) y 1).2 = fX0_monthOf y (nI (j + 1))) && decide (((dMl 13 (Int64.ofNat j) y 1).1.toInt32 + 1) = nI (j + 1) - fX0_daysAhead y (fX0_monthOf y (nI (j + 1)))) &&
  decide (1 ≤ fX0_monthOf y (nI (j + 1))) && decide (fX0_monthOf y (nI (j + 1)) ≤ 12) && decide (1 ≤ nI (j + 1) - fX0_daysAhead y (fX0_monthOf y (nI (j + 1)))) && decide (nI (j + 1) - fX0_daysAhead y (fX0_monthOf y (nI (j + 1))) ≤ fX0_monthLength y (fX0_monthOf y (nI (j + 1))))
theorem okD_leap : ∀ j : Nat, j < 366 → okD 2000 j = true := by decide +kernel
theorem okD_plain : ∀ j : Nat, j < 365 → okD 2001 j = true := by decide +kernel
theorem okD_c {y z : Int32} (h : fX0_isLeapYear y = fX0_isLeapYear z) (j : Nat) : okD y j = okD z j := by
  unfold okD
  simp only [dMb_c h, dMl_c h, daysAhead_c h, monthLength_c h, monthOf_c h]
theorem okD_of {y : Int32} {j : Nat} (h : (j : Int) < fd (y.toInt + 1) - fd y.toInt) : okD y j = true := by
  rcases leap0 y with ⟨q, e⟩ | ⟨q, e⟩
  · rw [okD_c (z := 2000) (by rw [e]; decide)]
    rw [fd_leap q] at h
    exact okD_leap j (by omega)
  · rw [okD_c (z := 2001) (by rw [e]; decide)]
    rw [fd_plain q] at h
    exact okD_plain j (by omega)
theorem yearOf_spec {D : Int64} (h1 : -4371587 ≤ D.toInt) (h2 : D.toInt ≤ 2932896) : YR (fX0_yearOf D) ∧ fd (fX0_yearOf D).toInt ≤ D.toInt + 719528 ∧ D.toInt + 719528 < fd ((fX0_yearOf D).toInt + 1) := by
  have l1 : (719528 : Int64).toInt = 719528 := by decide
  have l2 : (400 : Int64).toInt = 400 := by decide
  have l3 : (146097 : Int64).toInt = 146097 := by decide
  have e1 := mL (aL (x := D) rfl l1 (by omega)) l2 (by omega)
  have e2 := oI (fd64 e1 l3 (by decide)) (by omega)
  have o1 : (1 : Int32).toInt = 1 := by decide
  unfold fX0_yearOf
  generalize ((fJ9_floorDiv_f86c9 ((D + (719528 : Int64)) * (400 : Int64)) (146097 : Int64)).toInt32) = Y at e2 ⊢
  have b1 : -10000 ≤ Y.toInt ∧ Y.toInt ≤ 10000 := by omega
  have b2 : fd (Y.toInt - 1) ≤ D.toInt + 719528 ∧ D.toInt + 719528 < fd (Y.toInt + 2) := by unfold fd; omega
  have f1 := first_fd (y := Y) (by omega)
  have p1 := aI (x := Y) rfl o1 (by omega)
  have f2 := first_fd (y := Y + 1) (by rw [p1]; omega)
  rw [p1] at f2
  have rg : ∀ z : Int, fd z ≤ D.toInt + 719528 → D.toInt + 719528 < fd (z + 1) → -9999 ≤ z ∧ z ≤ 9999 := by
    intro z g1 g2
    unfold fd at g1 g2
    omega
  by_cases c1 : 0 ≤ (lg_cmp D (fX0_firstDayOf Y))
  · rw [if_pos c1]
    have g1 := lgc_ge.mp c1
    rw [f1] at g1
    by_cases c2 : 0 ≤ (lg_cmp D (fX0_firstDayOf (Y + (1 : Int32))))
    · rw [if_pos c2]
      have g2 := lgc_ge.mp c2
      rw [f2] at g2
      have q1 : fd (Y.toInt + 1) ≤ D.toInt + 719528 := by omega
      have q2 : D.toInt + 719528 < fd (Y.toInt + 1 + 1) := by rw [show Y.toInt + 1 + 1 = Y.toInt + 2 by omega]; exact b2.2
      have := rg _ q1 q2
      rw [show (Y + 1).toInt = Y.toInt + 1 from p1]
      exact ⟨⟨by rw [show (Y + 1).toInt = Y.toInt + 1 from p1]; omega, by rw [show (Y + 1).toInt = Y.toInt + 1 from p1]; omega⟩, q1, q2⟩
    · rw [if_neg c2]
      have g2 : ¬ fd (Y.toInt + 1) - 719528 ≤ D.toInt := fun z => c2 (lgc_ge.mpr (by rw [f2]; exact z))
      have q1 : fd Y.toInt ≤ D.toInt + 719528 := by omega
      have q2 : D.toInt + 719528 < fd (Y.toInt + 1) := by omega
      exact ⟨rg _ q1 q2, q1, q2⟩
  · rw [if_neg c1]
    have g1 : ¬ fd Y.toInt - 719528 ≤ D.toInt := fun z => c1 (lgc_ge.mpr (by rw [f1]; exact z))
    have p2 : (Y - (1 : Int32)).toInt = Y.toInt - 1 := sI rfl o1 (by omega)
    have q2 : D.toInt + 719528 < fd (Y.toInt - 1 + 1) := by rw [show Y.toInt - 1 + 1 = Y.toInt by omega]; omega
    have := rg _ b2.1 q2
    rw [p2]
    exact ⟨⟨by rw [p2]; omega, by rw [p2]; omega⟩, b2.1, q2⟩
theorem fd_lo : fd (-9999) = -3652059 := by decide
theorem fd_hi : fd 10000 = 3652425 := by decide
/-- the reference's years -/
theorem dY_spec {D : Int64} (h1 : -4371587 ≤ D.toInt) (h2 : D.toInt ≤ 2932896) : dYok (fuelY D) (dR0 D) (dY0 D) ∧ fX2_dy D = fX0_yearOf D ∧ (dR1 D).toInt = D.toInt + 719528 - fd (fX0_yearOf D).toInt := by
  have l1 : (719528 : Int64).toInt = 719528 := by decide
  have l2 : (400 : Int64).toInt = 400 := by decide
  have l3 : (146097 : Int64).toInt = 146097 := by decide
  have e1 := aL (x := D) rfl l1 (by omega)
  have e2 := fl2 e1 l3 (by decide)
  have e3 := mL l2 e2 (by omega)
  have e4 : (dY0 D).toInt = 400 * ((D.toInt + 719528) / 146097) := by
    unfold dY0
    rw [ahead_1970]
    exact oI e3 (by omega)
  have e5 : (dR0 D).toInt = D.toInt + 719528 - 146097 * ((D.toInt + 719528) / 146097) := by
    have f := ahead_fd (oL (oI e3 (by omega))) (by omega)
    unfold dR0
    rw [ahead_1970]
    rw [fd_400] at f
    exact sL e1 f (by omega)
  have key := dYl_spec (fuelY D) (dR0 D) (dY0 D) (by rw [e5]; omega) (by rw [e5]; omega) (by rw [e4]; omega) (by rw [e4, fuelY_eq]; omega) (by
    rw [e5, e4, fuelY_eq, fd_400]
    have : fd (400 * ((D.toInt + 719528) / 146097 + 1)) ≤ fd (400 * ((D.toInt + 719528) / 146097) + (401 : Nat)) := fd_mono (by omega)
    rw [fd_400] at this
    omega)
  have hy := yearOf_spec h1 h2
  have q1 : dR1 D = (dYl (fuelY D) (dR0 D) (dY0 D)).1 := rfl
  have q2 : fX2_dy D = (dYl (fuelY D) (dR0 D) (dY0 D)).2 := rfl
  rw [q1, q2]
  rw [e5, e4, fd_400] at key
  clear q1 q2 e5 e4 e3 e2 e1
  generalize dYl (fuelY D) (dR0 D) (dY0 D) = A at key ⊢
  generalize fX0_yearOf D = Y at hy ⊢
  generalize dYok (fuelY D) (dR0 D) (dY0 D) = Z at key ⊢
  generalize D.toInt = z at *
  obtain ⟨k2, k3, k4, k5⟩ := key
  have k9 : A.2.toInt = Y.toInt := fd_one (n := z + 719528) (by omega) (by omega) hy.2.1 hy.2.2
  exact ⟨k2, Int32.toInt_inj.mp k9, by rw [← k9]; omega⟩
def dXd (D : Int64) : Int32 := (((D - (fX0_firstDayOf (fX0_yearOf D))).toInt32) + (1 : Int32))
def dXm (D : Int64) : Int32 := fX0_monthOf (fX0_yearOf D) (dXd D)
def dXq (D : Int64) : Int32 := dXd D - fX0_daysAhead (fX0_yearOf D) (dXm D)
theorem date_spec {D : Int64} (h1 : -4371587 ≤ D.toInt) (h2 : D.toInt ≤ 2932896) : dMok (fuelM D) (dR1 D) (fX2_dy D) 1 ∧ fX2_dm D = dXm D ∧ ((dR2 D).toInt32 + 1) = dXq D ∧ MN (dXm D) ∧ (1 ≤ (dXq D).toInt ∧ dXq D ≤ fX0_monthLength (fX0_yearOf D) (dXm D)) ∧ fX0_dayOf (fX0_yearOf D) (dXm D) (dXq D) = D := by
  obtain ⟨k1, k2, k3⟩ := dY_spec h1 h2
  obtain ⟨y1, y2, y3⟩ := yearOf_spec h1 h2
  have o1 : (1 : Int32).toInt = 1 := by decide
  have hf := first_fd (y := fX0_yearOf D) (by unfold YR at y1; omega)
  have hb : 0 ≤ (dR1 D).toInt ∧ (dR1 D).toInt < fd ((fX0_yearOf D).toInt + 1) - fd (fX0_yearOf D).toInt ∧ fd ((fX0_yearOf D).toInt + 1) - fd (fX0_yearOf D).toInt ≤ 366 := by
    refine ⟨by omega, by omega, ?_⟩
    by_cases q : lp (fX0_yearOf D).toInt
    · rw [fd_leap q]; omega
    · rw [fd_plain q]; omega
  obtain ⟨j, hj⟩ : ∃ j : Nat, (dR1 D).toInt = (j : Int) := ⟨(dR1 D).toInt.toNat, by omega⟩
  have hjl : j < 366 := by omega
  have er : dR1 D = Int64.ofNat j := by
    refine eqL hj ?_
    rw [← Int64.ofInt_eq_ofNat, Int64.toInt_ofInt_of_le (by omega) (by omega)]
  have ed : dXd D = nI (j + 1) := by
    refine eqI (a := (j : Int) + 1) ?_ (by rw [nI_toInt (by omega)]; omega)
    have e1 := sL (x := D) rfl hf (by unfold fd; unfold YR at y1; omega)
    unfold dXd
    exact (aI (oI e1 (by omega)) o1 (by omega)).trans (by omega)
  have ok := okD_of (y := fX0_yearOf D) (j := j) (by omega)
  unfold okD at ok
  simp only [Bool.and_eq_true, decide_eq_true_eq] at ok
  obtain ⟨⟨⟨⟨⟨⟨a1, a2⟩, a3⟩, a4⟩, a5⟩, a6⟩, a7⟩ := ok
  have em : dXm D = fX0_monthOf (fX0_yearOf D) (nI (j + 1)) := by unfold dXm; rw [ed]
  have eq : dXq D = nI (j + 1) - fX0_daysAhead (fX0_yearOf D) (fX0_monthOf (fX0_yearOf D) (nI (j + 1))) := by unfold dXq; rw [ed, em]
  have hM : MN (dXm D) := by
    rw [em]
    have b1 := Int32.le_iff_toInt_le.mp a4
    have b2 := Int32.le_iff_toInt_le.mp a5
    rw [o1] at b1
    rw [show (12 : Int32).toInt = 12 from by decide] at b2
    exact ⟨b1, b2⟩
  have hq1 : 1 ≤ (dXq D).toInt := by
    have b1 := Int32.le_iff_toInt_le.mp a6
    rw [o1] at b1
    rw [eq]; exact b1
  have hq2 : dXq D ≤ fX0_monthLength (fX0_yearOf D) (dXm D) := by rw [eq, em]; exact a7
  have hlen := len_rng (y := fX0_yearOf D) (m := dXm D)
  have hq3 := Int32.le_iff_toInt_le.mp hq2
  refine ⟨by rw [fuelM_eq, k2, er]; exact dMb_ok _ _ _ _ a1, ?_, ?_, hM, ⟨hq1, hq2⟩, ?_⟩
  · rw [em, ← a2]
    unfold fX2_dm
    rw [fuelM_eq, k2, er]
  · rw [eq, ← a3]
    unfold dR2
    rw [fuelM_eq, k2, er]
  · have ha := ahead_rng (y := fX0_yearOf D) hM
    refine eqL (dayOf_fd (by unfold YR at y1; omega) hM (by omega)) ?_
    have : (dXq D).toInt = (j : Int) + 1 - (fX0_daysAhead (fX0_yearOf D) (dXm D)).toInt := by
      rw [eq, em]
      rw [em] at ha
      exact sI (by rw [nI_toInt (by omega)]; omega) rfl (by omega)
    omega
theorem dOK {p0 : Int64} (h1 : ¬ lg_cmp p0 (fX2_dayOf (-9999) 1 1) < 0) (h2 : lg_cmp p0 (fX2_dayOf 9999 12 31) ≤ 0) : dYok (fuelY p0) (dR0 p0) (dY0 p0) ∧ dMok (fuelM p0) (dR1 p0) (fX2_dy p0) 1 ∧ fX2_dm p0 ≤ 12 := by
  have e1 : fX2_dayOf (-9999) 1 1 = -4371587 := by decide +kernel
  have e2 : fX2_dayOf 9999 12 31 = 2932896 := by decide +kernel
  rw [e1] at h1
  rw [e2] at h2
  have g1 : -4371587 ≤ p0.toInt := by
    have : ¬ p0.toInt < (-4371587 : Int64).toInt := fun z => h1 (lgc_lt.mpr z)
    rw [show (-4371587 : Int64).toInt = -4371587 from by decide] at this
    omega
  have g2 : p0.toInt ≤ 2932896 := by
    have := lgc_le.mp h2
    rw [show (2932896 : Int64).toInt = 2932896 from by decide] at this
    exact this
  obtain ⟨k1, k2, k3⟩ := dY_spec g1 g2
  obtain ⟨m1, m2, m3, m4, m5, m6⟩ := date_spec g1 g2
  refine ⟨k1, m1, ?_⟩
  rw [m2, Int32.le_iff_toInt_le, show (12 : Int32).toInt = 12 from by decide]
  exact m4.2
theorem mon12 (x : Int64) : ((x - 12 * fX2_floor x 12).toInt32 + 1) ≤ 12 := by
  have hr := fb_rngL x
  have l : (12 : Int64).toInt = 12 := by decide
  have e1 := fl2 (x := x) rfl l (by decide)
  have e3 : (x - 12 * fX2_floor x 12).toInt = x.toInt - 12 * (x.toInt / 12) := by
    rw [Int64.toInt_sub, Int64.toInt_mul, l, e1, Int.sub_bmod_bmod]
    exact fb_bmodL (by omega) (by omega)
  have e4 := aI (oI e3 (by omega)) (show (1 : Int32).toInt = 1 from by decide) (by omega)
  rw [Int32.le_iff_toInt_le, e4, show (12 : Int32).toInt = 12 from by decide]
  omega
