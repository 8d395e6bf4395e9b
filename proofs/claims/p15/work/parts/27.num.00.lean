/-! what the texts' loops want -/
theorem nI_dec {k : Nat} (h : 1 ≤ k) : nI k + Int32.ofInt (-1) = nI (k - 1) := by
  have e : nI k = nI (k - 1) + 1 := by rw [nI_1]; congr 1; omega
  rw [e, Int32.add_assoc]
  have : (1 : Int32) + Int32.ofInt (-1) = 0 := by decide
  rw [this, Int32.add_zero]
theorem pw10 {k : Nat} (h : 2 ≤ k) : 10 ^ k = 10 ^ (k - 2) * 100 := by
  have e : k = (k - 2) + 2 := by omega
  conv => lhs; rw [e, Nat.pow_add]
theorem pw_lt {n k j : Nat} (h : n < 10 ^ k) (hj : 10 ^ j ≤ n) : j < k := by
  rcases Nat.lt_or_ge j k with q | q
  · exact q
  · have := Nat.pow_le_pow_right (n := 10) (by decide) q
    omega
theorem gc1 {y : Int64} {k : Nat} (h1 : (-y.toInt).toNat < 10 ^ k) (h2 : y.toInt ≤ 0) (hc : ¬ 0 < lg_cmp y (-2147483648 : Int64)) : 3 ≤ k ∧ (-(y / (100 : Int64)).toInt).toNat < 10 ^ (k - 2) ∧ (y / (100 : Int64)).toInt ≤ 0 ∧ vp_in ((((y / (100 : Int64)) * (100 : Int64)) - y).toInt32) 100 := by
  have hr := fb_rngL y
  rw [lgc_gt, show (-2147483648 : Int64).toInt = -2147483648 from by decide] at hc
  have e0 : (100 : Int64).toInt = 100 := by decide
  have e1 : (y / (100 : Int64)).toInt = -((-y.toInt) / 100) := by
    rw [Int64.toInt_div_of_ne_right _ _ (by decide), e0, tdivN h2]
  have e2 : ((y / (100 : Int64)) * (100 : Int64)).toInt = -((-y.toInt) / 100) * 100 := by
    rw [fb_mulL (by rw [e1, e0]; omega) (by rw [e1, e0]; omega), e1, e0]
  have e3 : (((y / (100 : Int64)) * (100 : Int64)) - y).toInt = -((-y.toInt) / 100) * 100 - y.toInt := by
    rw [fb_subL (by rw [e2]; omega) (by rw [e2]; omega), e2]
  have hk : 9 < k := pw_lt h1 (by show 1000000000 ≤ _; omega)
  have hp := pw10 (k := k) (by omega)
  refine ⟨by omega, ?_, by rw [e1]; omega, ?_⟩
  · rw [e1]
    rw [hp] at h1
    generalize 10 ^ (k - 2) = P at h1 ⊢
    omega
  · rw [vp_in_iff, Int64.toInt_toInt32, e3, fb_bmod (by omega) (by omega)]
    omega
theorem gc2 {i : Int32} {k : Nat} (h1 : (-i.toInt).toNat < 10 ^ k) (h2 : i.toInt ≤ 0) (hc : ¬ (-100 : Int32) < i) : 3 ≤ k ∧ (-(i / (100 : Int32)).toInt).toNat < 10 ^ (k - 2) ∧ (i / (100 : Int32)).toInt ≤ 0 ∧ vp_in (((i / (100 : Int32)) * (100 : Int32)) - i) 100 := by
  have hr := fb_rng i
  rw [Int32.lt_iff_toInt_lt, show (-100 : Int32).toInt = -100 from by decide] at hc
  have e0 : (100 : Int32).toInt = 100 := by decide
  have e1 : (i / (100 : Int32)).toInt = -((-i.toInt) / 100) := by
    rw [Int32.toInt_div_of_ne_right _ _ (by decide), e0, tdivN h2]
  have e2 : ((i / (100 : Int32)) * (100 : Int32)).toInt = -((-i.toInt) / 100) * 100 := by
    rw [fb_mulI (by rw [e1, e0]; omega) (by rw [e1, e0]; omega), e1, e0]
  have hk : 2 < k := pw_lt h1 (by show 100 ≤ _; omega)
  have hp := pw10 (k := k) (by omega)
  refine ⟨by omega, ?_, by rw [e1]; omega, ?_⟩
  · rw [e1]
    rw [hp] at h1
    generalize 10 ^ (k - 2) = P at h1 ⊢
    omega
  · rw [vp_in_iff, fb_subI (by rw [e2]; omega) (by rw [e2]; omega), e2]
    omega
