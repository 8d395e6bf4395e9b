/-- how far a walk on the line goes -/
theorem unit_pure {K P Q W : Int} (hK : -2147483648 ≤ K ∧ K ≤ 2147483648) (hQ : 0 < Q) (hP : 0 < P) (hPQ : P * Q = 86400000000000) (hW : (0 ≤ K ∧ W = K / P) ∨ (K ≤ 0 ∧ W = -((-K) / P))) :
    B64 (W * P) ∧ B64 (K - W * P) ∧ B64 ((K - W * P) * Q) ∧ (-30000000000 ≤ W ∧ W ≤ 30000000000) ∧ (-5000000000000000000 ≤ (K - W * P) * Q ∧ (K - W * P) * Q ≤ 5000000000000000000) ∧ (-30000000000 ≤ K / P ∧ K / P ≤ 30000000000) := by
  unfold B64
  rcases hW with ⟨h0, rfl⟩ | ⟨h0, rfl⟩
  · have m1 := Int.emod_add_mul_ediv K P
    have m2 := Int.emod_nonneg K (Int.ne_of_gt hP)
    have m3 := Int.emod_lt_of_pos K hP
    have m4 : K / P * P = P * (K / P) := Int.mul_comm _ _
    have b0 : 0 ≤ P * (K / P) := Int.mul_nonneg (Int.le_of_lt hP) (Int.ediv_nonneg h0 (Int.le_of_lt hP))
    have b1 : 0 ≤ K % P * Q := Int.mul_nonneg m2 (Int.le_of_lt hQ)
    have b2 : K % P * Q < 86400000000000 := by rw [← hPQ]; exact Int.mul_lt_mul_of_pos_right m3 hQ
    have b3 : K / P ≤ K := Int.ediv_le_self _ h0
    have b4 : 0 ≤ K / P := Int.ediv_nonneg h0 (Int.le_of_lt hP)
    have z4 : K - K / P * P = K % P := by omega
    rw [z4, m4]
    refine ⟨?_, ?_, ?_, ?_, ?_, ?_⟩ <;> omega
  · obtain ⟨M, rfl⟩ : ∃ M : Int, K = -M := ⟨-K, by omega⟩
    rw [Int.neg_neg]
    have h1 : 0 ≤ M := by omega
    have m1 := Int.emod_add_mul_ediv M P
    have m2 := Int.emod_nonneg M (Int.ne_of_gt hP)
    have m3 := Int.emod_lt_of_pos M hP
    have m4 : -(M / P) * P = -(P * (M / P)) := by rw [Int.neg_mul, Int.mul_comm]
    have b0 : 0 ≤ P * (M / P) := Int.mul_nonneg (Int.le_of_lt hP) (Int.ediv_nonneg h1 (Int.le_of_lt hP))
    have b1 : 0 ≤ M % P * Q := Int.mul_nonneg m2 (Int.le_of_lt hQ)
    have b2 : M % P * Q < 86400000000000 := by rw [← hPQ]; exact Int.mul_lt_mul_of_pos_right m3 hQ
    have b3 : M / P ≤ M := Int.ediv_le_self _ h1
    have b4 : 0 ≤ M / P := Int.ediv_nonneg h1 (Int.le_of_lt hP)
    have z4 : -M - -(M / P) * P = -(M % P) := by omega
    have z5 : -(M % P) * Q = -(M % P * Q) := Int.neg_mul _ _
    have b5 : -(M / P) - 1 ≤ (-M) / P ∧ (-M) / P ≤ -(M / P) := by
      have ed := edn (n := M) hP
      by_cases q : M % P = 0
      · rw [(ed.1 q).1]; omega
      · rw [(ed.2 q).1]; omega
    rw [z4, z5, m4]
    refine ⟨?_, ?_, ?_, ?_, ?_, ?_⟩ <;> omega
theorem unit_line {S : SX} {th : Int32} (hI : Inv S) {i : Int32} {k s : Int64} {K P Q : Int} (hi : vp_in i 6) (hk : k.toInt = K) (hs : s.toInt = Q) (hQ : 0 < Q) (hP : 0 < P) (hPQ : P * Q = 86400000000000) (hK : -2147483648 ≤ K ∧ K ≤ 2147483648) :
    GO th (gX2_onLine (mkM th S) i k s) (gX0_goLine S i (k / ((86400000000000 : Int64) / s)) ((k - (k / ((86400000000000 : Int64) / s)) * ((86400000000000 : Int64) / s)) * s)) := by
  have q1 : ((86400000000000 : Int64) / s).toInt = P := by
    rw [dL lDAY hs (by decide) hQ, ← hPQ, Int.mul_ediv_cancel _ (Int.ne_of_gt hQ)]
  have hK5 : -5000000000000000000 ≤ K ∧ K ≤ 5000000000000000000 := by omega
  rcases Int.le_total 0 K with h0 | h0
  · obtain ⟨b1, b2, b3, b4, b5, b6⟩ := unit_pure hK hQ hP hPQ (Or.inl ⟨h0, rfl⟩)
    have w := dL hk q1 h0 hP
    exact line_eq hI hi hk hs hQ hP hPQ hK5 w (mL (sL hk (mL w q1 b1) b2) hs b3) b4 b5 b6
  · obtain ⟨b1, b2, b3, b4, b5, b6⟩ := unit_pure hK hQ hP hPQ (Or.inr ⟨h0, rfl⟩)
    have w := dLn hk q1 h0 hP
    exact line_eq hI hi hk hs hQ hP hPQ hK5 w (mL (sL hk (mL w q1 b1) b2) hs b3) b4 b5 b6
