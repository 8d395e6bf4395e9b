theorem rv_neg0 : (nI 0 - (1 : Int32)) < 0 := by decide
theorem rv_negS {t : Nat} (h : t < 34) : ¬ (nI (t + 1) - (1 : Int32)) < 0 := by
  have k : ∀ t : Nat, t < 34 → ¬ (nI (t + 1) - (1 : Int32)) < 0 := by decide +kernel
  exact k t h
theorem rv_dec (t : Nat) : (nI (t + 1) - (1 : Int32)) + Int32.ofInt (-1) = nI t - (1 : Int32) := by
  rw [← nI_1]
  have e : nI t + 1 - (1 : Int32) = nI t := Int32.add_sub_cancel _ _
  have e3 : Int32.ofInt (-1) = -(1 : Int32) := by decide
  rw [e, e3, ← Int32.sub_eq_add_neg]
theorem ce_val {v : Int64} (h1 : 48 ≤ v.toInt) (h2 : v.toInt ≤ 57) : fJ1_canEncode_fc78d (((v.toInt32).toUInt32 % 65536).toInt32) = 1 := by
  have k : v = 48 ∨ v = 49 ∨ v = 50 ∨ v = 51 ∨ v = 52 ∨ v = 53 ∨ v = 54 ∨ v = 55 ∨ v = 56 ∨ v = 57 := by
    have e : ∀ z : Int, v.toInt = z → v = Int64.ofInt z := fun z q => by rw [← q, Int64.ofInt_toInt]
    have c : v.toInt = 48 ∨ v.toInt = 49 ∨ v.toInt = 50 ∨ v.toInt = 51 ∨ v.toInt = 52 ∨ v.toInt = 53 ∨ v.toInt = 54 ∨ v.toInt = 55 ∨ v.toInt = 56 ∨ v.toInt = 57 := by omega
    rcases c with c | c | c | c | c | c | c | c | c | c <;> have e2 := e _ c <;> subst e2 <;> decide
  rcases k with rfl | rfl | rfl | rfl | rfl | rfl | rfl | rfl | rfl | rfl <;> decide
theorem md10 (r : Int64) : (fJ9_abs_067f4 (r - r / (10 : Int64) * (10 : Int64))).toInt ≤ 9 ∧ 0 ≤ (fJ9_abs_067f4 (r - r / (10 : Int64) * (10 : Int64))).toInt := by
  have hr := fb_rngL r
  have e0 : (10 : Int64).toInt = 10 := by decide
  have e1 : (r / (10 : Int64)).toInt = r.toInt.tdiv 10 := by rw [Int64.toInt_div_of_ne_right _ _ (by decide), e0]
  have b1 : r.toInt.tdiv 10 * 10 ≤ 9 + r.toInt.natAbs ∧ -(9 + (r.toInt.natAbs : Int)) ≤ r.toInt.tdiv 10 * 10 ∧ (r.toInt - r.toInt.tdiv 10 * 10) ≤ 9 ∧ -9 ≤ (r.toInt - r.toInt.tdiv 10 * 10) ∧ -9223372036854775808 ≤ r.toInt.tdiv 10 * 10 ∧ r.toInt.tdiv 10 * 10 < 9223372036854775808 := by
    rcases Int.le_total 0 r.toInt with h | h
    · rw [tdivP h]; omega
    · rw [tdivN h]; omega
  have e2 : (r / (10 : Int64) * (10 : Int64)).toInt = r.toInt.tdiv 10 * 10 := by
    rw [fb_mulL (by rw [e1, e0]; omega) (by rw [e1, e0]; omega), e1, e0]
  have e3 : (r - r / (10 : Int64) * (10 : Int64)).toInt = r.toInt - r.toInt.tdiv 10 * 10 := by
    rw [fb_subL (by rw [e2]; omega) (by rw [e2]; omega), e2]
  unfold fJ9_abs_067f4
  by_cases h : 0 ≤ lg_cmp (r - r / (10 : Int64) * (10 : Int64)) (0 : Int64)
  · rw [if_pos h]
    have h2 := lgc_ge.mp h
    rw [show (0 : Int64).toInt = 0 from by decide] at h2
    omega
  · rw [if_neg h]
    have h2 : ¬ 0 ≤ (r - r / (10 : Int64) * (10 : Int64)).toInt := fun z => h (lgc_ge.mpr (by rw [show (0 : Int64).toInt = 0 from by decide]; exact z))
    rw [Int64.toInt_neg, fb_bmodL (by omega) (by omega)]
    omega
theorem ce_dig (r : Int64) : fJ1_canEncode_fc78d (((((48 : Int64) + (fJ9_abs_067f4 (r - r / (10 : Int64) * (10 : Int64)))).toInt32).toUInt32 % 65536).toInt32) = 1 := by
  have h := md10 r
  have e : ((48 : Int64) + (fJ9_abs_067f4 (r - r / (10 : Int64) * (10 : Int64)))).toInt = 48 + (fJ9_abs_067f4 (r - r / (10 : Int64) * (10 : Int64))).toInt := by
    rw [fb_addL (by rw [show (48 : Int64).toInt = 48 from by decide]; omega) (by rw [show (48 : Int64).toInt = 48 from by decide]; omega)]
    rfl
  exact ce_val (by omega) (by omega)
theorem dv10 (x : Int64) : (x / (10 : Int64)).toInt.natAbs = x.toInt.natAbs / 10 := by
  rw [Int64.toInt_div_of_ne_right _ _ (by decide), show (10 : Int64).toInt = 10 from by decide, Int.natAbs_tdiv]
  rfl

