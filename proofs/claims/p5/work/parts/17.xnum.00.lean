/-! numbers of the machine: comparisons, quotients, and what the texts' loops want -/
theorem lgc_cases (x y : Int64) : (x.toInt < y.toInt ∧ lg_cmp x y = -1) ∨ (x.toInt = y.toInt ∧ lg_cmp x y = 0) ∨ (y.toInt < x.toInt ∧ lg_cmp x y = 1) := by
  unfold lg_cmp
  by_cases h1 : x > y
  · rw [if_pos h1]; exact Or.inr (Or.inr ⟨Int64.lt_iff_toInt_lt.mp h1, rfl⟩)
  · rw [if_neg h1]
    by_cases h2 : x = y
    · rw [if_pos h2]; exact Or.inr (Or.inl ⟨by rw [h2], rfl⟩)
    · rw [if_neg h2]
      refine Or.inl ⟨?_, rfl⟩
      have a : ¬ y.toInt < x.toInt := fun h => h1 (Int64.lt_iff_toInt_lt.mpr h)
      have b : ¬ x.toInt = y.toInt := fun h => h2 (Int64.toInt_inj.mp h)
      omega
theorem lgc_lt {x y : Int64} : lg_cmp x y < 0 ↔ x.toInt < y.toInt := by
  rcases lgc_cases x y with ⟨h, e⟩ | ⟨h, e⟩ | ⟨h, e⟩
  · rw [e]; exact ⟨fun _ => h, fun _ => by decide⟩
  · rw [e]; exact ⟨fun z => absurd z (by decide), fun z => absurd z (by omega)⟩
  · rw [e]; exact ⟨fun z => absurd z (by decide), fun z => absurd z (by omega)⟩
theorem lgc_le {x y : Int64} : lg_cmp x y ≤ 0 ↔ x.toInt ≤ y.toInt := by
  rcases lgc_cases x y with ⟨h, e⟩ | ⟨h, e⟩ | ⟨h, e⟩
  · rw [e]; exact ⟨fun _ => by omega, fun _ => by decide⟩
  · rw [e]; exact ⟨fun _ => by omega, fun _ => by decide⟩
  · rw [e]; exact ⟨fun z => absurd z (by decide), fun z => absurd z (by omega)⟩
theorem lgc_gt {x y : Int64} : 0 < lg_cmp x y ↔ y.toInt < x.toInt := by
  rcases lgc_cases x y with ⟨h, e⟩ | ⟨h, e⟩ | ⟨h, e⟩
  · rw [e]; exact ⟨fun z => absurd z (by decide), fun z => absurd z (by omega)⟩
  · rw [e]; exact ⟨fun z => absurd z (by decide), fun z => absurd z (by omega)⟩
  · rw [e]; exact ⟨fun _ => h, fun _ => by decide⟩
theorem lgc_ge {x y : Int64} : 0 ≤ lg_cmp x y ↔ y.toInt ≤ x.toInt := by
  rcases lgc_cases x y with ⟨h, e⟩ | ⟨h, e⟩ | ⟨h, e⟩
  · rw [e]; exact ⟨fun z => absurd z (by decide), fun z => absurd z (by omega)⟩
  · rw [e]; exact ⟨fun _ => by omega, fun _ => by decide⟩
  · rw [e]; exact ⟨fun _ => by omega, fun _ => by decide⟩
theorem lgc_eq {x y : Int64} : lg_cmp x y = 0 ↔ x.toInt = y.toInt := by
  rw [lg_cmp0, Int64.toInt_inj]
theorem tdivN {a : Int} (h : a ≤ 0) (c : Int) : a.tdiv c = -((-a) / c) := by
  have h2 := Int.neg_tdiv (-a) c
  rw [Int.neg_neg] at h2
  rw [h2, Int.tdiv_eq_ediv_of_nonneg (by omega)]
theorem tdivP {a : Int} (h : 0 ≤ a) (c : Int) : a.tdiv c = a / c := Int.tdiv_eq_ediv_of_nonneg h

/-! numbers: conversions to Int -/
theorem aI {x y : Int32} {a b : Int} (hx : x.toInt = a) (hy : y.toInt = b) (h : -2147483648 ≤ a + b ∧ a + b < 2147483648) : (x + y).toInt = a + b := by subst hx; subst hy; exact fb_addI h.1 h.2
theorem sI {x y : Int32} {a b : Int} (hx : x.toInt = a) (hy : y.toInt = b) (h : -2147483648 ≤ a - b ∧ a - b < 2147483648) : (x - y).toInt = a - b := by subst hx; subst hy; exact fb_subI h.1 h.2
theorem mI {x y : Int32} {a b : Int} (hx : x.toInt = a) (hy : y.toInt = b) (h : -2147483648 ≤ a * b ∧ a * b < 2147483648) : (x * y).toInt = a * b := by subst hx; subst hy; exact fb_mulI h.1 h.2
theorem aL {x y : Int64} {a b : Int} (hx : x.toInt = a) (hy : y.toInt = b) (h : -9223372036854775808 ≤ a + b ∧ a + b < 9223372036854775808) : (x + y).toInt = a + b := by subst hx; subst hy; exact fb_addL h.1 h.2
theorem sL {x y : Int64} {a b : Int} (hx : x.toInt = a) (hy : y.toInt = b) (h : -9223372036854775808 ≤ a - b ∧ a - b < 9223372036854775808) : (x - y).toInt = a - b := by subst hx; subst hy; exact fb_subL h.1 h.2
theorem mL {x y : Int64} {a b : Int} (hx : x.toInt = a) (hy : y.toInt = b) (h : -9223372036854775808 ≤ a * b ∧ a * b < 9223372036854775808) : (x * y).toInt = a * b := by subst hx; subst hy; exact fb_mulL h.1 h.2
theorem gL {x : Int64} {a : Int} (hx : x.toInt = a) (h : -9223372036854775808 < a) : (-x).toInt = -a := by
  subst hx
  have := fb_rngL x
  rw [Int64.toInt_neg, fb_bmodL (by omega) (by omega)]
theorem oL {x : Int32} {a : Int} (hx : x.toInt = a) : (x.toInt64).toInt = a := by rw [Int32.toInt_toInt64]; exact hx
theorem oI {x : Int64} {a : Int} (hx : x.toInt = a) (h : -2147483648 ≤ a ∧ a < 2147483648) : (x.toInt32).toInt = a := by rw [Int64.toInt_toInt32, hx, fb_bmod h.1 h.2]
theorem eqI {x y : Int32} {a : Int} (hx : x.toInt = a) (hy : y.toInt = a) : x = y := Int32.toInt_inj.mp (hx.trans hy.symm)
theorem eqL {x y : Int64} {a : Int} (hx : x.toInt = a) (hy : y.toInt = a) : x = y := Int64.toInt_inj.mp (hx.trans hy.symm)
theorem nm1L {c : Int64} {k : Int} (hc : c.toInt = k) (hk : 0 < k) : c ≠ -1 := fun h => by
  rw [h] at hc
  have : (-1 : Int64).toInt = -1 := by decide
  omega
theorem nm1I {c : Int32} {k : Int} (hc : c.toInt = k) (hk : 0 < k) : c ≠ -1 := fun h => by
  rw [h] at hc
  have : (-1 : Int32).toInt = -1 := by decide
  omega
theorem dL {x c : Int64} {a k : Int} (hx : x.toInt = a) (hc : c.toInt = k) (h0 : 0 ≤ a) (hk : 0 < k) : (x / c).toInt = a / k := by
  rw [Int64.toInt_div_of_ne_right _ _ (nm1L hc hk), hx, hc, tdivP h0]
theorem dLn {x c : Int64} {a k : Int} (hx : x.toInt = a) (hc : c.toInt = k) (h0 : a ≤ 0) (hk : 0 < k) : (x / c).toInt = -((-a) / k) := by
  rw [Int64.toInt_div_of_ne_right _ _ (nm1L hc hk), hx, hc, tdivN h0]
theorem rL {x c : Int64} {a k : Int} (hx : x.toInt = a) (hc : c.toInt = k) (h0 : 0 ≤ a) (hk : 0 < k) : (x - x / c * c).toInt = a % k := by
  have hr := fb_rngL x
  have h1 := Int.emod_add_mul_ediv a k
  have h2 := Int.emod_nonneg a (Int.ne_of_gt hk)
  have h3 := Int.emod_lt_of_pos a hk
  have h4 := Int.ediv_nonneg h0 (Int.le_of_lt hk)
  have e1 : (x / c * c).toInt = a / k * k := mL (dL hx hc h0 hk) hc (by rw [Int.mul_comm]; have := Int.mul_nonneg (Int.le_of_lt hk) h4; omega)
  rw [sL hx e1 (by rw [Int.mul_comm]; have := Int.mul_nonneg (Int.le_of_lt hk) h4; omega), Int.mul_comm]
  omega
theorem dI {x c : Int32} {a k : Int} (hx : x.toInt = a) (hc : c.toInt = k) (h0 : 0 ≤ a) (hk : 0 < k) : (x / c).toInt = a / k := by
  rw [Int32.toInt_div_of_ne_right _ _ (nm1I hc hk), hx, hc, tdivP h0]
