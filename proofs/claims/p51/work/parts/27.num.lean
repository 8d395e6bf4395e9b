/-! what the texts' loops want -/
theorem nI_dec {k : Nat} (h : 1 ≤ k) : nI k + Int32.ofInt (-1) = nI (k - 1) := by
  have e : nI k = nI (k - 1) + 1 := by rw [nI_1]; congr 1; omega
  rw [e, Int32.add_assoc]
  have : (1 : Int32) + Int32.ofInt (-1) = 0 := by decide
  rw [this, Int32.add_zero]
theorem pw10 {k : Nat} (h : 2 ≤ k) : 10 ^ k = 10 ^ (k - 2) * 100 := by
  have e : k = (k - 2) + 2 := by omega
  conv => lhs; rw [e, Nat.pow_add]
theorem pw_lt {n k j : Nat} (h : n < 10 ^ k) (hj : 10 ^ j ≤ n) : j < k := by
  rcases Nat.lt_or_ge j k with q | q
  · exact q
  · have := Nat.pow_le_pow_right (n := 10) (by decide) q
    omega
theorem gc1 {y : Int64} {k : Nat} (h1 : (-y.toInt).toNat < 10 ^ k) (h2 : y.toInt ≤ 0) (hc : ¬ 0 < lg_cmp y (-2147483648 : Int64)) : 3 ≤ k ∧ (-(y / (100 : Int64)).toInt).toNat < 10 ^ (k - 2) ∧ (y / (100 : Int64)).toInt ≤ 0 ∧ vp_in ((((y / (100 : Int64)) * (100 : Int64)) - y).toInt32) 100 := by
  have hr := fb_rngL y
  rw [lgc_gt, show (-2147483648 : Int64).toInt = -2147483648 from by decide] at hc
  have e0 : (100 : Int64).toInt = 100 := by decide
  have e1 : (y / (100 : Int64)).toInt = -((-y.toInt) / 100) := by
    rw [Int64.toInt_div_of_ne_right _ _ (by decide), e0, tdivN h2]
  have e2 : ((y / (100 : Int64)) * (100 : Int64)).toInt = -((-y.toInt) / 100) * 100 := by
    rw [fb_mulL (by rw [e1, e0]; omega) (by rw [e1, e0]; omega), e1, e0]
  have e3 : (((y / (100 : Int64)) * (100 : Int64)) - y).toInt = -((-y.toInt) / 100) * 100 - y.toInt := by
    rw [fb_subL (by rw [e2]; omega) (by rw [e2]; omega), e2]
  have hk : 9 < k := pw_lt h1 (by show 1000000000 ≤ _; omega)
  have hp := pw10 (k := k) (by omega)
  refine ⟨by omega, ?_, by rw [e1]; omega, ?_⟩
  · rw [e1]
    rw [hp] at h1
    generalize 10 ^ (k - 2) = P at h1 ⊢
    omega
  · rw [vp_in_iff, Int64.toInt_toInt32, e3, fb_bmod (by omega) (by omega)]
    omega
theorem gc2 {i : Int32} {k : Nat} (h1 : (-i.toInt).toNat < 10 ^ k) (h2 : i.toInt ≤ 0) (hc : ¬ (-100 : Int32) < i) : 3 ≤ k ∧ (-(i / (100 : Int32)).toInt).toNat < 10 ^ (k - 2) ∧ (i / (100 : Int32)).toInt ≤ 0 ∧ vp_in (((i / (100 : Int32)) * (100 : Int32)) - i) 100 := by
  have hr := fb_rng i
  rw [Int32.lt_iff_toInt_lt, show (-100 : Int32).toInt = -100 from by decide] at hc
  have e0 : (100 : Int32).toInt = 100 := by decide
  have e1 : (i / (100 : Int32)).toInt = -((-i.toInt) / 100) := by
    rw [Int32.toInt_div_of_ne_right _ _ (by decide), e0, tdivN h2]
  have e2 : ((i / (100 : Int32)) * (100 : Int32)).toInt = -((-i.toInt) / 100) * 100 := by
    rw [fb_mulI (by rw [e1, e0]; omega) (by rw [e1, e0]; omega), e1, e0]
  have hk : 2 < k := pw_lt h1 (by show 100 ≤ _; omega)
  have hp := pw10 (k := k) (by omega)
  refine ⟨by omega, ?_, by rw [e1]; omega, ?_⟩
  · rw [e1]
    rw [hp] at h1
    generalize 10 ^ (k - 2) = P at h1 ⊢
    omega
  · rw [vp_in_iff, fb_subI (by rw [e2]; omega) (by rw [e2]; omega), e2]
    omega
theorem gc3 {i : Int32} (h2 : i.toInt ≤ 0) (hc : (-100 : Int32) < i) : vp_in (-i) 100 := by
  rw [Int32.lt_iff_toInt_lt, show (-100 : Int32).toInt = -100 from by decide] at hc
  rw [vp_in_iff, fb_negI (by omega)]
  omega
theorem gc4 {i : Int32} {k : Nat} (h1 : (-i.toInt).toNat < 10 ^ k) (hc : ¬ (-9 : Int32) ≤ i) : 2 ≤ k := by
  rw [Int32.le_iff_toInt_le, show (-9 : Int32).toInt = -9 from by decide] at hc
  exact pw_lt (j := 1) h1 (by show 10 ≤ _; omega)
theorem gc5 {y : Int64} (h2 : y.toInt ≤ 0) (hc : 0 < lg_cmp y (-2147483648 : Int64)) : (y.toInt32).toInt = y.toInt := by
  rw [lgc_gt, show (-2147483648 : Int64).toInt = -2147483648 from by decide] at hc
  rw [Int64.toInt_toInt32, fb_bmod (by omega) (by omega)]
/-- a number of k digits, and d signs, as the JDK counts them -/
def SS (x : Int64) (k d : Nat) : Prop := 1 ≤ k ∧ k ≤ 19 ∧ ((x.toInt < 0 ∧ d = 1) ∨ (0 ≤ x.toInt ∧ d = 0)) ∧ x.toInt.natAbs < 10 ^ k ∧ (k = 1 ∨ 10 ^ (k - 1) ≤ x.toInt.natAbs) ∧ fJ13_stringSize_95d88 x = nI (k + d)
theorem neg_toInt {x : Int64} (h : 0 ≤ x.toInt) : (-x).toInt = -x.toInt := by
  have hr := fb_rngL x
  rw [Int64.toInt_neg, fb_bmodL (by omega) (by omega)]
theorem SS_of (x : Int64) : ∃ k d : Nat, SS x k d := by
  have hr := fb_rngL x
  by_cases h0 : (lg_cmp x (0 : Int64)) < 0
  · have g0 := lgc_lt.mp h0; rw [show (0 : Int64).toInt = 0 from by decide] at g0
    by_cases h1 : (lg_cmp x (-10 : Int64)) ≤ 0
    · have g1 := lgc_le.mp h1; rw [show (-10 : Int64).toInt = -10 from by decide] at g1
      by_cases h2 : (lg_cmp x (-100 : Int64)) ≤ 0
      · have g2 := lgc_le.mp h2; rw [show (-100 : Int64).toInt = -100 from by decide] at g2
        by_cases h3 : (lg_cmp x (-1000 : Int64)) ≤ 0
        · have g3 := lgc_le.mp h3; rw [show (-1000 : Int64).toInt = -1000 from by decide] at g3
          by_cases h4 : (lg_cmp x (-10000 : Int64)) ≤ 0
          · have g4 := lgc_le.mp h4; rw [show (-10000 : Int64).toInt = -10000 from by decide] at g4
            by_cases h5 : (lg_cmp x (-100000 : Int64)) ≤ 0
            · have g5 := lgc_le.mp h5; rw [show (-100000 : Int64).toInt = -100000 from by decide] at g5
              by_cases h6 : (lg_cmp x (-1000000 : Int64)) ≤ 0
              · have g6 := lgc_le.mp h6; rw [show (-1000000 : Int64).toInt = -1000000 from by decide] at g6
                by_cases h7 : (lg_cmp x (-10000000 : Int64)) ≤ 0
                · have g7 := lgc_le.mp h7; rw [show (-10000000 : Int64).toInt = -10000000 from by decide] at g7
                  by_cases h8 : (lg_cmp x (-100000000 : Int64)) ≤ 0
                  · have g8 := lgc_le.mp h8; rw [show (-100000000 : Int64).toInt = -100000000 from by decide] at g8
                    by_cases h9 : (lg_cmp x (-1000000000 : Int64)) ≤ 0
                    · have g9 := lgc_le.mp h9; rw [show (-1000000000 : Int64).toInt = -1000000000 from by decide] at g9
                      by_cases h10 : (lg_cmp x (-10000000000 : Int64)) ≤ 0
                      · have g10 := lgc_le.mp h10; rw [show (-10000000000 : Int64).toInt = -10000000000 from by decide] at g10
                        by_cases h11 : (lg_cmp x (-100000000000 : Int64)) ≤ 0
                        · have g11 := lgc_le.mp h11; rw [show (-100000000000 : Int64).toInt = -100000000000 from by decide] at g11
                          by_cases h12 : (lg_cmp x (-1000000000000 : Int64)) ≤ 0
                          · have g12 := lgc_le.mp h12; rw [show (-1000000000000 : Int64).toInt = -1000000000000 from by decide] at g12
                            by_cases h13 : (lg_cmp x (-10000000000000 : Int64)) ≤ 0
                            · have g13 := lgc_le.mp h13; rw [show (-10000000000000 : Int64).toInt = -10000000000000 from by decide] at g13
                              by_cases h14 : (lg_cmp x (-100000000000000 : Int64)) ≤ 0
                              · have g14 := lgc_le.mp h14; rw [show (-100000000000000 : Int64).toInt = -100000000000000 from by decide] at g14
                                by_cases h15 : (lg_cmp x (-1000000000000000 : Int64)) ≤ 0
                                · have g15 := lgc_le.mp h15; rw [show (-1000000000000000 : Int64).toInt = -1000000000000000 from by decide] at g15
                                  by_cases h16 : (lg_cmp x (-10000000000000000 : Int64)) ≤ 0
                                  · have g16 := lgc_le.mp h16; rw [show (-10000000000000000 : Int64).toInt = -10000000000000000 from by decide] at g16
                                    by_cases h17 : (lg_cmp x (-100000000000000000 : Int64)) ≤ 0
                                    · have g17 := lgc_le.mp h17; rw [show (-100000000000000000 : Int64).toInt = -100000000000000000 from by decide] at g17
                                      by_cases h18 : (lg_cmp x (-1000000000000000000 : Int64)) ≤ 0
                                      · have g18 := lgc_le.mp h18; rw [show (-1000000000000000000 : Int64).toInt = -1000000000000000000 from by decide] at g18
                                        exact ⟨19, 1, by decide, by decide, Or.inl ⟨g0, rfl⟩, by show _ < 10000000000000000000; omega, Or.inr (by show 1000000000000000000 ≤ _; omega), (Eq.trans (if_pos h0) (Eq.trans (if_pos h1) (Eq.trans (if_pos h2) (Eq.trans (if_pos h3) (Eq.trans (if_pos h4) (Eq.trans (if_pos h5) (Eq.trans (if_pos h6) (Eq.trans (if_pos h7) (Eq.trans (if_pos h8) (Eq.trans (if_pos h9) (Eq.trans (if_pos h10) (Eq.trans (if_pos h11) (Eq.trans (if_pos h12) (Eq.trans (if_pos h13) (Eq.trans (if_pos h14) (Eq.trans (if_pos h15) (Eq.trans (if_pos h16) (Eq.trans (if_pos h17) (if_pos h18)))))))))))))))))))⟩
                                      · have g18 : ¬ x.toInt ≤ -1000000000000000000 := fun z => h18 (lgc_le.mpr (by rw [show (-1000000000000000000 : Int64).toInt = -1000000000000000000 from by decide]; exact z))
                                        exact ⟨18, 1, by decide, by decide, Or.inl ⟨g0, rfl⟩, by show _ < 1000000000000000000; omega, Or.inr (by show 100000000000000000 ≤ _; omega), (Eq.trans (if_pos h0) (Eq.trans (if_pos h1) (Eq.trans (if_pos h2) (Eq.trans (if_pos h3) (Eq.trans (if_pos h4) (Eq.trans (if_pos h5) (Eq.trans (if_pos h6) (Eq.trans (if_pos h7) (Eq.trans (if_pos h8) (Eq.trans (if_pos h9) (Eq.trans (if_pos h10) (Eq.trans (if_pos h11) (Eq.trans (if_pos h12) (Eq.trans (if_pos h13) (Eq.trans (if_pos h14) (Eq.trans (if_pos h15) (Eq.trans (if_pos h16) (Eq.trans (if_pos h17) (if_neg h18)))))))))))))))))))⟩
                                    · have g17 : ¬ x.toInt ≤ -100000000000000000 := fun z => h17 (lgc_le.mpr (by rw [show (-100000000000000000 : Int64).toInt = -100000000000000000 from by decide]; exact z))
                                      exact ⟨17, 1, by decide, by decide, Or.inl ⟨g0, rfl⟩, by show _ < 100000000000000000; omega, Or.inr (by show 10000000000000000 ≤ _; omega), (Eq.trans (if_pos h0) (Eq.trans (if_pos h1) (Eq.trans (if_pos h2) (Eq.trans (if_pos h3) (Eq.trans (if_pos h4) (Eq.trans (if_pos h5) (Eq.trans (if_pos h6) (Eq.trans (if_pos h7) (Eq.trans (if_pos h8) (Eq.trans (if_pos h9) (Eq.trans (if_pos h10) (Eq.trans (if_pos h11) (Eq.trans (if_pos h12) (Eq.trans (if_pos h13) (Eq.trans (if_pos h14) (Eq.trans (if_pos h15) (Eq.trans (if_pos h16) (if_neg h17))))))))))))))))))⟩
                                  · have g16 : ¬ x.toInt ≤ -10000000000000000 := fun z => h16 (lgc_le.mpr (by rw [show (-10000000000000000 : Int64).toInt = -10000000000000000 from by decide]; exact z))
                                    exact ⟨16, 1, by decide, by decide, Or.inl ⟨g0, rfl⟩, by show _ < 10000000000000000; omega, Or.inr (by show 1000000000000000 ≤ _; omega), (Eq.trans (if_pos h0) (Eq.trans (if_pos h1) (Eq.trans (if_pos h2) (Eq.trans (if_pos h3) (Eq.trans (if_pos h4) (Eq.trans (if_pos h5) (Eq.trans (if_pos h6) (Eq.trans (if_pos h7) (Eq.trans (if_pos h8) (Eq.trans (if_pos h9) (Eq.trans (if_pos h10) (Eq.trans (if_pos h11) (Eq.trans (if_pos h12) (Eq.trans (if_pos h13) (Eq.trans (if_pos h14) (Eq.trans (if_pos h15) (if_neg h16)))))))))))))))))⟩
                                · have g15 : ¬ x.toInt ≤ -1000000000000000 := fun z => h15 (lgc_le.mpr (by rw [show (-1000000000000000 : Int64).toInt = -1000000000000000 from by decide]; exact z))
                                  exact ⟨15, 1, by decide, by decide, Or.inl ⟨g0, rfl⟩, by show _ < 1000000000000000; omega, Or.inr (by show 100000000000000 ≤ _; omega), (Eq.trans (if_pos h0) (Eq.trans (if_pos h1) (Eq.trans (if_pos h2) (Eq.trans (if_pos h3) (Eq.trans (if_pos h4) (Eq.trans (if_pos h5) (Eq.trans (if_pos h6) (Eq.trans (if_pos h7) (Eq.trans (if_pos h8) (Eq.trans (if_pos h9) (Eq.trans (if_pos h10) (Eq.trans (if_pos h11) (Eq.trans (if_pos h12) (Eq.trans (if_pos h13) (Eq.trans (if_pos h14) (if_neg h15))))))))))))))))⟩
                              · have g14 : ¬ x.toInt ≤ -100000000000000 := fun z => h14 (lgc_le.mpr (by rw [show (-100000000000000 : Int64).toInt = -100000000000000 from by decide]; exact z))
                                exact ⟨14, 1, by decide, by decide, Or.inl ⟨g0, rfl⟩, by show _ < 100000000000000; omega, Or.inr (by show 10000000000000 ≤ _; omega), (Eq.trans (if_pos h0) (Eq.trans (if_pos h1) (Eq.trans (if_pos h2) (Eq.trans (if_pos h3) (Eq.trans (if_pos h4) (Eq.trans (if_pos h5) (Eq.trans (if_pos h6) (Eq.trans (if_pos h7) (Eq.trans (if_pos h8) (Eq.trans (if_pos h9) (Eq.trans (if_pos h10) (Eq.trans (if_pos h11) (Eq.trans (if_pos h12) (Eq.trans (if_pos h13) (if_neg h14)))))))))))))))⟩
                            · have g13 : ¬ x.toInt ≤ -10000000000000 := fun z => h13 (lgc_le.mpr (by rw [show (-10000000000000 : Int64).toInt = -10000000000000 from by decide]; exact z))
                              exact ⟨13, 1, by decide, by decide, Or.inl ⟨g0, rfl⟩, by show _ < 10000000000000; omega, Or.inr (by show 1000000000000 ≤ _; omega), (Eq.trans (if_pos h0) (Eq.trans (if_pos h1) (Eq.trans (if_pos h2) (Eq.trans (if_pos h3) (Eq.trans (if_pos h4) (Eq.trans (if_pos h5) (Eq.trans (if_pos h6) (Eq.trans (if_pos h7) (Eq.trans (if_pos h8) (Eq.trans (if_pos h9) (Eq.trans (if_pos h10) (Eq.trans (if_pos h11) (Eq.trans (if_pos h12) (if_neg h13))))))))))))))⟩
                          · have g12 : ¬ x.toInt ≤ -1000000000000 := fun z => h12 (lgc_le.mpr (by rw [show (-1000000000000 : Int64).toInt = -1000000000000 from by decide]; exact z))
                            exact ⟨12, 1, by decide, by decide, Or.inl ⟨g0, rfl⟩, by show _ < 1000000000000; omega, Or.inr (by show 100000000000 ≤ _; omega), (Eq.trans (if_pos h0) (Eq.trans (if_pos h1) (Eq.trans (if_pos h2) (Eq.trans (if_pos h3) (Eq.trans (if_pos h4) (Eq.trans (if_pos h5) (Eq.trans (if_pos h6) (Eq.trans (if_pos h7) (Eq.trans (if_pos h8) (Eq.trans (if_pos h9) (Eq.trans (if_pos h10) (Eq.trans (if_pos h11) (if_neg h12)))))))))))))⟩
                        · have g11 : ¬ x.toInt ≤ -100000000000 := fun z => h11 (lgc_le.mpr (by rw [show (-100000000000 : Int64).toInt = -100000000000 from by decide]; exact z))
                          exact ⟨11, 1, by decide, by decide, Or.inl ⟨g0, rfl⟩, by show _ < 100000000000; omega, Or.inr (by show 10000000000 ≤ _; omega), (Eq.trans (if_pos h0) (Eq.trans (if_pos h1) (Eq.trans (if_pos h2) (Eq.trans (if_pos h3) (Eq.trans (if_pos h4) (Eq.trans (if_pos h5) (Eq.trans (if_pos h6) (Eq.trans (if_pos h7) (Eq.trans (if_pos h8) (Eq.trans (if_pos h9) (Eq.trans (if_pos h10) (if_neg h11))))))))))))⟩
                      · have g10 : ¬ x.toInt ≤ -10000000000 := fun z => h10 (lgc_le.mpr (by rw [show (-10000000000 : Int64).toInt = -10000000000 from by decide]; exact z))
                        exact ⟨10, 1, by decide, by decide, Or.inl ⟨g0, rfl⟩, by show _ < 10000000000; omega, Or.inr (by show 1000000000 ≤ _; omega), (Eq.trans (if_pos h0) (Eq.trans (if_pos h1) (Eq.trans (if_pos h2) (Eq.trans (if_pos h3) (Eq.trans (if_pos h4) (Eq.trans (if_pos h5) (Eq.trans (if_pos h6) (Eq.trans (if_pos h7) (Eq.trans (if_pos h8) (Eq.trans (if_pos h9) (if_neg h10)))))))))))⟩
                    · have g9 : ¬ x.toInt ≤ -1000000000 := fun z => h9 (lgc_le.mpr (by rw [show (-1000000000 : Int64).toInt = -1000000000 from by decide]; exact z))
                      exact ⟨9, 1, by decide, by decide, Or.inl ⟨g0, rfl⟩, by show _ < 1000000000; omega, Or.inr (by show 100000000 ≤ _; omega), (Eq.trans (if_pos h0) (Eq.trans (if_pos h1) (Eq.trans (if_pos h2) (Eq.trans (if_pos h3) (Eq.trans (if_pos h4) (Eq.trans (if_pos h5) (Eq.trans (if_pos h6) (Eq.trans (if_pos h7) (Eq.trans (if_pos h8) (if_neg h9))))))))))⟩
                  · have g8 : ¬ x.toInt ≤ -100000000 := fun z => h8 (lgc_le.mpr (by rw [show (-100000000 : Int64).toInt = -100000000 from by decide]; exact z))
                    exact ⟨8, 1, by decide, by decide, Or.inl ⟨g0, rfl⟩, by show _ < 100000000; omega, Or.inr (by show 10000000 ≤ _; omega), (Eq.trans (if_pos h0) (Eq.trans (if_pos h1) (Eq.trans (if_pos h2) (Eq.trans (if_pos h3) (Eq.trans (if_pos h4) (Eq.trans (if_pos h5) (Eq.trans (if_pos h6) (Eq.trans (if_pos h7) (if_neg h8)))))))))⟩
                · have g7 : ¬ x.toInt ≤ -10000000 := fun z => h7 (lgc_le.mpr (by rw [show (-10000000 : Int64).toInt = -10000000 from by decide]; exact z))
                  exact ⟨7, 1, by decide, by decide, Or.inl ⟨g0, rfl⟩, by show _ < 10000000; omega, Or.inr (by show 1000000 ≤ _; omega), (Eq.trans (if_pos h0) (Eq.trans (if_pos h1) (Eq.trans (if_pos h2) (Eq.trans (if_pos h3) (Eq.trans (if_pos h4) (Eq.trans (if_pos h5) (Eq.trans (if_pos h6) (if_neg h7))))))))⟩
              · have g6 : ¬ x.toInt ≤ -1000000 := fun z => h6 (lgc_le.mpr (by rw [show (-1000000 : Int64).toInt = -1000000 from by decide]; exact z))
                exact ⟨6, 1, by decide, by decide, Or.inl ⟨g0, rfl⟩, by show _ < 1000000; omega, Or.inr (by show 100000 ≤ _; omega), (Eq.trans (if_pos h0) (Eq.trans (if_pos h1) (Eq.trans (if_pos h2) (Eq.trans (if_pos h3) (Eq.trans (if_pos h4) (Eq.trans (if_pos h5) (if_neg h6)))))))⟩
            · have g5 : ¬ x.toInt ≤ -100000 := fun z => h5 (lgc_le.mpr (by rw [show (-100000 : Int64).toInt = -100000 from by decide]; exact z))
              exact ⟨5, 1, by decide, by decide, Or.inl ⟨g0, rfl⟩, by show _ < 100000; omega, Or.inr (by show 10000 ≤ _; omega), (Eq.trans (if_pos h0) (Eq.trans (if_pos h1) (Eq.trans (if_pos h2) (Eq.trans (if_pos h3) (Eq.trans (if_pos h4) (if_neg h5))))))⟩
          · have g4 : ¬ x.toInt ≤ -10000 := fun z => h4 (lgc_le.mpr (by rw [show (-10000 : Int64).toInt = -10000 from by decide]; exact z))
            exact ⟨4, 1, by decide, by decide, Or.inl ⟨g0, rfl⟩, by show _ < 10000; omega, Or.inr (by show 1000 ≤ _; omega), (Eq.trans (if_pos h0) (Eq.trans (if_pos h1) (Eq.trans (if_pos h2) (Eq.trans (if_pos h3) (if_neg h4)))))⟩
        · have g3 : ¬ x.toInt ≤ -1000 := fun z => h3 (lgc_le.mpr (by rw [show (-1000 : Int64).toInt = -1000 from by decide]; exact z))
          exact ⟨3, 1, by decide, by decide, Or.inl ⟨g0, rfl⟩, by show _ < 1000; omega, Or.inr (by show 100 ≤ _; omega), (Eq.trans (if_pos h0) (Eq.trans (if_pos h1) (Eq.trans (if_pos h2) (if_neg h3))))⟩
      · have g2 : ¬ x.toInt ≤ -100 := fun z => h2 (lgc_le.mpr (by rw [show (-100 : Int64).toInt = -100 from by decide]; exact z))
        exact ⟨2, 1, by decide, by decide, Or.inl ⟨g0, rfl⟩, by show _ < 100; omega, Or.inr (by show 10 ≤ _; omega), (Eq.trans (if_pos h0) (Eq.trans (if_pos h1) (if_neg h2)))⟩
    · have g1 : ¬ x.toInt ≤ -10 := fun z => h1 (lgc_le.mpr (by rw [show (-10 : Int64).toInt = -10 from by decide]; exact z))
      exact ⟨1, 1, by decide, by decide, Or.inl ⟨g0, rfl⟩, by show _ < 10; omega, Or.inl rfl, (Eq.trans (if_pos h0) (if_neg h1))⟩
  · have g0 : ¬ x.toInt < 0 := fun z => h0 (lgc_lt.mpr z)
    have ge := neg_toInt (x := x) (by omega)
    by_cases h1 : (lg_cmp (-x) (-10 : Int64)) ≤ 0
    · have g1 := lgc_le.mp h1; rw [show (-10 : Int64).toInt = -10 from by decide, ge] at g1
      by_cases h2 : (lg_cmp (-x) (-100 : Int64)) ≤ 0
      · have g2 := lgc_le.mp h2; rw [show (-100 : Int64).toInt = -100 from by decide, ge] at g2
        by_cases h3 : (lg_cmp (-x) (-1000 : Int64)) ≤ 0
        · have g3 := lgc_le.mp h3; rw [show (-1000 : Int64).toInt = -1000 from by decide, ge] at g3
          by_cases h4 : (lg_cmp (-x) (-10000 : Int64)) ≤ 0
          · have g4 := lgc_le.mp h4; rw [show (-10000 : Int64).toInt = -10000 from by decide, ge] at g4
            by_cases h5 : (lg_cmp (-x) (-100000 : Int64)) ≤ 0
            · have g5 := lgc_le.mp h5; rw [show (-100000 : Int64).toInt = -100000 from by decide, ge] at g5
              by_cases h6 : (lg_cmp (-x) (-1000000 : Int64)) ≤ 0
              · have g6 := lgc_le.mp h6; rw [show (-1000000 : Int64).toInt = -1000000 from by decide, ge] at g6
                by_cases h7 : (lg_cmp (-x) (-10000000 : Int64)) ≤ 0
                · have g7 := lgc_le.mp h7; rw [show (-10000000 : Int64).toInt = -10000000 from by decide, ge] at g7
                  by_cases h8 : (lg_cmp (-x) (-100000000 : Int64)) ≤ 0
                  · have g8 := lgc_le.mp h8; rw [show (-100000000 : Int64).toInt = -100000000 from by decide, ge] at g8
                    by_cases h9 : (lg_cmp (-x) (-1000000000 : Int64)) ≤ 0
                    · have g9 := lgc_le.mp h9; rw [show (-1000000000 : Int64).toInt = -1000000000 from by decide, ge] at g9
                      by_cases h10 : (lg_cmp (-x) (-10000000000 : Int64)) ≤ 0
                      · have g10 := lgc_le.mp h10; rw [show (-10000000000 : Int64).toInt = -10000000000 from by decide, ge] at g10
                        by_cases h11 : (lg_cmp (-x) (-100000000000 : Int64)) ≤ 0
                        · have g11 := lgc_le.mp h11; rw [show (-100000000000 : Int64).toInt = -100000000000 from by decide, ge] at g11
                          by_cases h12 : (lg_cmp (-x) (-1000000000000 : Int64)) ≤ 0
                          · have g12 := lgc_le.mp h12; rw [show (-1000000000000 : Int64).toInt = -1000000000000 from by decide, ge] at g12
                            by_cases h13 : (lg_cmp (-x) (-10000000000000 : Int64)) ≤ 0
                            · have g13 := lgc_le.mp h13; rw [show (-10000000000000 : Int64).toInt = -10000000000000 from by decide, ge] at g13
                              by_cases h14 : (lg_cmp (-x) (-100000000000000 : Int64)) ≤ 0
                              · have g14 := lgc_le.mp h14; rw [show (-100000000000000 : Int64).toInt = -100000000000000 from by decide, ge] at g14
                                by_cases h15 : (lg_cmp (-x) (-1000000000000000 : Int64)) ≤ 0
                                · have g15 := lgc_le.mp h15; rw [show (-1000000000000000 : Int64).toInt = -1000000000000000 from by decide, ge] at g15
                                  by_cases h16 : (lg_cmp (-x) (-10000000000000000 : Int64)) ≤ 0
                                  · have g16 := lgc_le.mp h16; rw [show (-10000000000000000 : Int64).toInt = -10000000000000000 from by decide, ge] at g16
                                    by_cases h17 : (lg_cmp (-x) (-100000000000000000 : Int64)) ≤ 0
                                    · have g17 := lgc_le.mp h17; rw [show (-100000000000000000 : Int64).toInt = -100000000000000000 from by decide, ge] at g17
                                      by_cases h18 : (lg_cmp (-x) (-1000000000000000000 : Int64)) ≤ 0
                                      · have g18 := lgc_le.mp h18; rw [show (-1000000000000000000 : Int64).toInt = -1000000000000000000 from by decide, ge] at g18
                                        exact ⟨19, 0, by decide, by decide, Or.inr ⟨by omega, rfl⟩, by show _ < 10000000000000000000; omega, Or.inr (by show 1000000000000000000 ≤ _; omega), (Eq.trans (if_neg h0) (Eq.trans (if_pos h1) (Eq.trans (if_pos h2) (Eq.trans (if_pos h3) (Eq.trans (if_pos h4) (Eq.trans (if_pos h5) (Eq.trans (if_pos h6) (Eq.trans (if_pos h7) (Eq.trans (if_pos h8) (Eq.trans (if_pos h9) (Eq.trans (if_pos h10) (Eq.trans (if_pos h11) (Eq.trans (if_pos h12) (Eq.trans (if_pos h13) (Eq.trans (if_pos h14) (Eq.trans (if_pos h15) (Eq.trans (if_pos h16) (Eq.trans (if_pos h17) (if_pos h18)))))))))))))))))))⟩
                                      · have g18 : ¬ (-x).toInt ≤ -1000000000000000000 := fun z => h18 (lgc_le.mpr (by rw [show (-1000000000000000000 : Int64).toInt = -1000000000000000000 from by decide]; exact z))
                                        rw [ge] at g18
                                        exact ⟨18, 0, by decide, by decide, Or.inr ⟨by omega, rfl⟩, by show _ < 1000000000000000000; omega, Or.inr (by show 100000000000000000 ≤ _; omega), (Eq.trans (if_neg h0) (Eq.trans (if_pos h1) (Eq.trans (if_pos h2) (Eq.trans (if_pos h3) (Eq.trans (if_pos h4) (Eq.trans (if_pos h5) (Eq.trans (if_pos h6) (Eq.trans (if_pos h7) (Eq.trans (if_pos h8) (Eq.trans (if_pos h9) (Eq.trans (if_pos h10) (Eq.trans (if_pos h11) (Eq.trans (if_pos h12) (Eq.trans (if_pos h13) (Eq.trans (if_pos h14) (Eq.trans (if_pos h15) (Eq.trans (if_pos h16) (Eq.trans (if_pos h17) (if_neg h18)))))))))))))))))))⟩
                                    · have g17 : ¬ (-x).toInt ≤ -100000000000000000 := fun z => h17 (lgc_le.mpr (by rw [show (-100000000000000000 : Int64).toInt = -100000000000000000 from by decide]; exact z))
                                      rw [ge] at g17
                                      exact ⟨17, 0, by decide, by decide, Or.inr ⟨by omega, rfl⟩, by show _ < 100000000000000000; omega, Or.inr (by show 10000000000000000 ≤ _; omega), (Eq.trans (if_neg h0) (Eq.trans (if_pos h1) (Eq.trans (if_pos h2) (Eq.trans (if_pos h3) (Eq.trans (if_pos h4) (Eq.trans (if_pos h5) (Eq.trans (if_pos h6) (Eq.trans (if_pos h7) (Eq.trans (if_pos h8) (Eq.trans (if_pos h9) (Eq.trans (if_pos h10) (Eq.trans (if_pos h11) (Eq.trans (if_pos h12) (Eq.trans (if_pos h13) (Eq.trans (if_pos h14) (Eq.trans (if_pos h15) (Eq.trans (if_pos h16) (if_neg h17))))))))))))))))))⟩
                                  · have g16 : ¬ (-x).toInt ≤ -10000000000000000 := fun z => h16 (lgc_le.mpr (by rw [show (-10000000000000000 : Int64).toInt = -10000000000000000 from by decide]; exact z))
                                    rw [ge] at g16
                                    exact ⟨16, 0, by decide, by decide, Or.inr ⟨by omega, rfl⟩, by show _ < 10000000000000000; omega, Or.inr (by show 1000000000000000 ≤ _; omega), (Eq.trans (if_neg h0) (Eq.trans (if_pos h1) (Eq.trans (if_pos h2) (Eq.trans (if_pos h3) (Eq.trans (if_pos h4) (Eq.trans (if_pos h5) (Eq.trans (if_pos h6) (Eq.trans (if_pos h7) (Eq.trans (if_pos h8) (Eq.trans (if_pos h9) (Eq.trans (if_pos h10) (Eq.trans (if_pos h11) (Eq.trans (if_pos h12) (Eq.trans (if_pos h13) (Eq.trans (if_pos h14) (Eq.trans (if_pos h15) (if_neg h16)))))))))))))))))⟩
                                · have g15 : ¬ (-x).toInt ≤ -1000000000000000 := fun z => h15 (lgc_le.mpr (by rw [show (-1000000000000000 : Int64).toInt = -1000000000000000 from by decide]; exact z))
                                  rw [ge] at g15
                                  exact ⟨15, 0, by decide, by decide, Or.inr ⟨by omega, rfl⟩, by show _ < 1000000000000000; omega, Or.inr (by show 100000000000000 ≤ _; omega), (Eq.trans (if_neg h0) (Eq.trans (if_pos h1) (Eq.trans (if_pos h2) (Eq.trans (if_pos h3) (Eq.trans (if_pos h4) (Eq.trans (if_pos h5) (Eq.trans (if_pos h6) (Eq.trans (if_pos h7) (Eq.trans (if_pos h8) (Eq.trans (if_pos h9) (Eq.trans (if_pos h10) (Eq.trans (if_pos h11) (Eq.trans (if_pos h12) (Eq.trans (if_pos h13) (Eq.trans (if_pos h14) (if_neg h15))))))))))))))))⟩
                              · have g14 : ¬ (-x).toInt ≤ -100000000000000 := fun z => h14 (lgc_le.mpr (by rw [show (-100000000000000 : Int64).toInt = -100000000000000 from by decide]; exact z))
                                rw [ge] at g14
                                exact ⟨14, 0, by decide, by decide, Or.inr ⟨by omega, rfl⟩, by show _ < 100000000000000; omega, Or.inr (by show 10000000000000 ≤ _; omega), (Eq.trans (if_neg h0) (Eq.trans (if_pos h1) (Eq.trans (if_pos h2) (Eq.trans (if_pos h3) (Eq.trans (if_pos h4) (Eq.trans (if_pos h5) (Eq.trans (if_pos h6) (Eq.trans (if_pos h7) (Eq.trans (if_pos h8) (Eq.trans (if_pos h9) (Eq.trans (if_pos h10) (Eq.trans (if_pos h11) (Eq.trans (if_pos h12) (Eq.trans (if_pos h13) (if_neg h14)))))))))))))))⟩
                            · have g13 : ¬ (-x).toInt ≤ -10000000000000 := fun z => h13 (lgc_le.mpr (by rw [show (-10000000000000 : Int64).toInt = -10000000000000 from by decide]; exact z))
                              rw [ge] at g13
                              exact ⟨13, 0, by decide, by decide, Or.inr ⟨by omega, rfl⟩, by show _ < 10000000000000; omega, Or.inr (by show 1000000000000 ≤ _; omega), (Eq.trans (if_neg h0) (Eq.trans (if_pos h1) (Eq.trans (if_pos h2) (Eq.trans (if_pos h3) (Eq.trans (if_pos h4) (Eq.trans (if_pos h5) (Eq.trans (if_pos h6) (Eq.trans (if_pos h7) (Eq.trans (if_pos h8) (Eq.trans (if_pos h9) (Eq.trans (if_pos h10) (Eq.trans (if_pos h11) (Eq.trans (if_pos h12) (if_neg h13))))))))))))))⟩
                          · have g12 : ¬ (-x).toInt ≤ -1000000000000 := fun z => h12 (lgc_le.mpr (by rw [show (-1000000000000 : Int64).toInt = -1000000000000 from by decide]; exact z))
                            rw [ge] at g12
                            exact ⟨12, 0, by decide, by decide, Or.inr ⟨by omega, rfl⟩, by show _ < 1000000000000; omega, Or.inr (by show 100000000000 ≤ _; omega), (Eq.trans (if_neg h0) (Eq.trans (if_pos h1) (Eq.trans (if_pos h2) (Eq.trans (if_pos h3) (Eq.trans (if_pos h4) (Eq.trans (if_pos h5) (Eq.trans (if_pos h6) (Eq.trans (if_pos h7) (Eq.trans (if_pos h8) (Eq.trans (if_pos h9) (Eq.trans (if_pos h10) (Eq.trans (if_pos h11) (if_neg h12)))))))))))))⟩
                        · have g11 : ¬ (-x).toInt ≤ -100000000000 := fun z => h11 (lgc_le.mpr (by rw [show (-100000000000 : Int64).toInt = -100000000000 from by decide]; exact z))
                          rw [ge] at g11
                          exact ⟨11, 0, by decide, by decide, Or.inr ⟨by omega, rfl⟩, by show _ < 100000000000; omega, Or.inr (by show 10000000000 ≤ _; omega), (Eq.trans (if_neg h0) (Eq.trans (if_pos h1) (Eq.trans (if_pos h2) (Eq.trans (if_pos h3) (Eq.trans (if_pos h4) (Eq.trans (if_pos h5) (Eq.trans (if_pos h6) (Eq.trans (if_pos h7) (Eq.trans (if_pos h8) (Eq.trans (if_pos h9) (Eq.trans (if_pos h10) (if_neg h11))))))))))))⟩
                      · have g10 : ¬ (-x).toInt ≤ -10000000000 := fun z => h10 (lgc_le.mpr (by rw [show (-10000000000 : Int64).toInt = -10000000000 from by decide]; exact z))
                        rw [ge] at g10
                        exact ⟨10, 0, by decide, by decide, Or.inr ⟨by omega, rfl⟩, by show _ < 10000000000; omega, Or.inr (by show 1000000000 ≤ _; omega), (Eq.trans (if_neg h0) (Eq.trans (if_pos h1) (Eq.trans (if_pos h2) (Eq.trans (if_pos h3) (Eq.trans (if_pos h4) (Eq.trans (if_pos h5) (Eq.trans (if_pos h6) (Eq.trans (if_pos h7) (Eq.trans (if_pos h8) (Eq.trans (if_pos h9) (if_neg h10)))))))))))⟩
                    · have g9 : ¬ (-x).toInt ≤ -1000000000 := fun z => h9 (lgc_le.mpr (by rw [show (-1000000000 : Int64).toInt = -1000000000 from by decide]; exact z))
                      rw [ge] at g9
                      exact ⟨9, 0, by decide, by decide, Or.inr ⟨by omega, rfl⟩, by show _ < 1000000000; omega, Or.inr (by show 100000000 ≤ _; omega), (Eq.trans (if_neg h0) (Eq.trans (if_pos h1) (Eq.trans (if_pos h2) (Eq.trans (if_pos h3) (Eq.trans (if_pos h4) (Eq.trans (if_pos h5) (Eq.trans (if_pos h6) (Eq.trans (if_pos h7) (Eq.trans (if_pos h8) (if_neg h9))))))))))⟩
                  · have g8 : ¬ (-x).toInt ≤ -100000000 := fun z => h8 (lgc_le.mpr (by rw [show (-100000000 : Int64).toInt = -100000000 from by decide]; exact z))
                    rw [ge] at g8
                    exact ⟨8, 0, by decide, by decide, Or.inr ⟨by omega, rfl⟩, by show _ < 100000000; omega, Or.inr (by show 10000000 ≤ _; omega), (Eq.trans (if_neg h0) (Eq.trans (if_pos h1) (Eq.trans (if_pos h2) (Eq.trans (if_pos h3) (Eq.trans (if_pos h4) (Eq.trans (if_pos h5) (Eq.trans (if_pos h6) (Eq.trans (if_pos h7) (if_neg h8)))))))))⟩
                · have g7 : ¬ (-x).toInt ≤ -10000000 := fun z => h7 (lgc_le.mpr (by rw [show (-10000000 : Int64).toInt = -10000000 from by decide]; exact z))
                  rw [ge] at g7
                  exact ⟨7, 0, by decide, by decide, Or.inr ⟨by omega, rfl⟩, by show _ < 10000000; omega, Or.inr (by show 1000000 ≤ _; omega), (Eq.trans (if_neg h0) (Eq.trans (if_pos h1) (Eq.trans (if_pos h2) (Eq.trans (if_pos h3) (Eq.trans (if_pos h4) (Eq.trans (if_pos h5) (Eq.trans (if_pos h6) (if_neg h7))))))))⟩
              · have g6 : ¬ (-x).toInt ≤ -1000000 := fun z => h6 (lgc_le.mpr (by rw [show (-1000000 : Int64).toInt = -1000000 from by decide]; exact z))
                rw [ge] at g6
                exact ⟨6, 0, by decide, by decide, Or.inr ⟨by omega, rfl⟩, by show _ < 1000000; omega, Or.inr (by show 100000 ≤ _; omega), (Eq.trans (if_neg h0) (Eq.trans (if_pos h1) (Eq.trans (if_pos h2) (Eq.trans (if_pos h3) (Eq.trans (if_pos h4) (Eq.trans (if_pos h5) (if_neg h6)))))))⟩
            · have g5 : ¬ (-x).toInt ≤ -100000 := fun z => h5 (lgc_le.mpr (by rw [show (-100000 : Int64).toInt = -100000 from by decide]; exact z))
              rw [ge] at g5
              exact ⟨5, 0, by decide, by decide, Or.inr ⟨by omega, rfl⟩, by show _ < 100000; omega, Or.inr (by show 10000 ≤ _; omega), (Eq.trans (if_neg h0) (Eq.trans (if_pos h1) (Eq.trans (if_pos h2) (Eq.trans (if_pos h3) (Eq.trans (if_pos h4) (if_neg h5))))))⟩
          · have g4 : ¬ (-x).toInt ≤ -10000 := fun z => h4 (lgc_le.mpr (by rw [show (-10000 : Int64).toInt = -10000 from by decide]; exact z))
            rw [ge] at g4
            exact ⟨4, 0, by decide, by decide, Or.inr ⟨by omega, rfl⟩, by show _ < 10000; omega, Or.inr (by show 1000 ≤ _; omega), (Eq.trans (if_neg h0) (Eq.trans (if_pos h1) (Eq.trans (if_pos h2) (Eq.trans (if_pos h3) (if_neg h4)))))⟩
        · have g3 : ¬ (-x).toInt ≤ -1000 := fun z => h3 (lgc_le.mpr (by rw [show (-1000 : Int64).toInt = -1000 from by decide]; exact z))
          rw [ge] at g3
          exact ⟨3, 0, by decide, by decide, Or.inr ⟨by omega, rfl⟩, by show _ < 1000; omega, Or.inr (by show 100 ≤ _; omega), (Eq.trans (if_neg h0) (Eq.trans (if_pos h1) (Eq.trans (if_pos h2) (if_neg h3))))⟩
      · have g2 : ¬ (-x).toInt ≤ -100 := fun z => h2 (lgc_le.mpr (by rw [show (-100 : Int64).toInt = -100 from by decide]; exact z))
        rw [ge] at g2
        exact ⟨2, 0, by decide, by decide, Or.inr ⟨by omega, rfl⟩, by show _ < 100; omega, Or.inr (by show 10 ≤ _; omega), (Eq.trans (if_neg h0) (Eq.trans (if_pos h1) (if_neg h2)))⟩
    · have g1 : ¬ (-x).toInt ≤ -10 := fun z => h1 (lgc_le.mpr (by rw [show (-10 : Int64).toInt = -10 from by decide]; exact z))
      rw [ge] at g1
      exact ⟨1, 0, by decide, by decide, Or.inr ⟨by omega, rfl⟩, by show _ < 10; omega, Or.inl rfl, (Eq.trans (if_neg h0) (if_neg h1))⟩
theorem SS.d1 {x : Int64} {k d : Nat} (h : SS x k d) : d ≤ 1 := by
  rcases h.2.2.1 with q | q <;> omega
theorem rev_j : ∀ k : Nat, k < 34 → (((nI k - (1 : Int32)) - (1 : Int32)) >>> ((1 : Int32) &&& 31)) = nI (k / 2) - 1 := by decide +kernel
theorem nI_subN {a b : Nat} (h : b ≤ a) : nI a - nI b = nI (a - b) := by
  have e : nI a = nI (a - b) + nI b := by rw [nI_add]; congr 1; omega
  rw [e, Int32.add_sub_cancel]
theorem rev_in (k : Nat) (hk : k < 34) (t : Nat) (ht : t ≤ k / 2) (h0 : ¬ t = 0) : vp_in (nI t - (1 : Int32)) k ∧ vp_in ((nI k - (1 : Int32)) - (nI t - (1 : Int32))) k := by
  have e1 : nI t - (1 : Int32) = nI (t - 1) := nI_subN (b := 1) (by omega)
  have e2 : nI k - (1 : Int32) = nI (k - 1) := nI_subN (b := 1) (by omega)
  rw [e1, e2, nI_subN (by omega)]
  exact ⟨vp_in_nI (by omega) (by omega), vp_in_nI (by omega) (by omega)⟩
theorem vin_mono {x : Int32} {a b : Nat} (h : vp_in x a) (hab : a ≤ b) : vp_in x b := by
  rw [vp_in_iff] at h ⊢
  omega
