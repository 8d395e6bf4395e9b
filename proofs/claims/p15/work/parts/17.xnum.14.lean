/-- the floor of a number below 0 -/
theorem edn {n b : Int} (hb : 0 < b) : (n % b = 0 → (-n) / b = -(n / b) ∧ (-n) % b = 0) ∧ (n % b ≠ 0 → (-n) / b = -(n / b) - 1 ∧ (-n) % b = b - n % b) := by
  have h1 := Int.emod_add_mul_ediv n b
  have h2 := Int.emod_nonneg n (Int.ne_of_gt hb)
  have h3 := Int.emod_lt_of_pos n hb
  refine ⟨fun h => (Int.ediv_emod_unique hb).mpr ⟨?_, by omega, hb⟩, fun h => (Int.ediv_emod_unique hb).mpr ⟨?_, by omega, by omega⟩⟩
  · rw [Int.mul_neg]; omega
  · rw [Int.mul_sub, Int.mul_neg, Int.mul_one]; omega
