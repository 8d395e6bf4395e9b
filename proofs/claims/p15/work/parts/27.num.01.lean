theorem gc3 {i : Int32} (h2 : i.toInt ≤ 0) (hc : (-100 : Int32) < i) : vp_in (-i) 100 := by
  rw [Int32.lt_iff_toInt_lt, show (-100 : Int32).toInt = -100 from by decide] at hc
  rw [vp_in_iff, fb_negI (by omega)]
  omega
theorem gc4 {i : Int32} {k : Nat} (h1 : (-i.toInt).toNat < 10 ^ k) (hc : ¬ (-9 : Int32) ≤ i) : 2 ≤ k := by
  rw [Int32.le_iff_toInt_le, show (-9 : Int32).toInt = -9 from by decide] at hc
  exact pw_lt (j := 1) h1 (by show 10 ≤ _; omega)
theorem gc5 {y : Int64} (h2 : y.toInt ≤ 0) (hc : 0 < lg_cmp y (-2147483648 : Int64)) : (y.toInt32).toInt = y.toInt := by
  rw [lgc_gt, show (-2147483648 : Int64).toInt = -2147483648 from by decide] at hc
  rw [Int64.toInt_toInt32, fb_bmod (by omega) (by omega)]
/-- a number of k digits, and d signs, as the JDK counts them -/
def SS (x : Int64) (k d : Nat) : Prop := 1 ≤ k ∧ k ≤ 19 ∧ ((x.toInt < 0 ∧ d = 1) ∨ (0 ≤ x.toInt ∧ d = 0)) ∧ x.toInt.natAbs < 10 ^ k ∧ (k = 1 ∨ 10 ^ (k - 1) ≤ x.toInt.natAbs) ∧ fJ13_stringSize_95d88 x = nI (k + d)
theorem neg_toInt {x : Int64} (h : 0 ≤ x.toInt) : (-x).toInt = -x.toInt := by
  have hr := fb_rngL x
  rw [Int64.toInt_neg, fb_bmodL (by omega) (by omega)]
