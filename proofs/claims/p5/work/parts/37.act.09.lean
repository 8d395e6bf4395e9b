theorem sameAs_eq {S : SX} (hI : Inv S) {i u : Int32} (hi : vp_in i 6) (hu : 0 ≤ u.toInt ∧ u.toInt ≤ 4) : fX0_isSameAs S i u = (if u ≤ (2 : Int32) then (0 : Int32) else (1 : Int32)) := by
  unfold fX0_isSameAs
  rw [date_1 hI hi, parts_1 hI hi]
  rcases en8 (u := u) ⟨hu.1, by omega⟩ with rfl | rfl | rfl | rfl | rfl | rfl | rfl | rfl
  · decide
  · decide
  · decide
  · decide
  · decide
  · exact absurd hu.2 (by decide)
  · exact absurd hu.2 (by decide)
  · exact absurd hu.2 (by decide)
theorem same_01 (S : SX) (i j : Int32) : fX0_isSameLine S i j = 0 ∨ fX0_isSameLine S i j = 1 := by
  unfold fX0_isSameLine
  repeat' split
  all_goals decide
theorem ord_same {S : SX} {th : Int32} (hI : Inv S) {i j : Int32} (hi : vp_in i 6) (hj : vp_in j 6) : (if (fX2_order (mkM th S) i j) = 0 then (1 : Int32) else (0 : Int32)) = fX0_isSameLine S i j := by
  rw [order_eq hI hi hj, same_eq]
theorem v0 : vp_in (0 : Int32) 6 := by rw [vp_in_iff]; decide
theorem v1 : vp_in (1 : Int32) 6 := by rw [vp_in_iff]; decide
theorem v2 : vp_in (2 : Int32) 6 := by rw [vp_in_iff]; decide
theorem v3 : vp_in (3 : Int32) 6 := by rw [vp_in_iff]; decide
theorem v4 : vp_in (4 : Int32) 6 := by rw [vp_in_iff]; decide
theorem v5 : vp_in (5 : Int32) 6 := by rw [vp_in_iff]; decide
theorem like_eq {S : SX} {th : Int32} (hI : Inv S) : fX2_likeOnes (mkM th S) = fX0_countRepeated S := by
  have r1 : fX0_isRepeated S (1 : Int32) = (if ((0 : Int32) ||| (fX0_isSameLine S 1 0)) = 0 then (0 : Int32) else (1 : Int32)) := by
    unfold fX0_isRepeated
    rcases same_01 S 1 0 with a | a <;> rw [a] <;> first | decide | rfl
  have r2 : fX0_isRepeated S (2 : Int32) = (if (((0 : Int32) ||| (fX0_isSameLine S 2 0)) ||| (fX0_isSameLine S 2 1)) = 0 then (0 : Int32) else (1 : Int32)) := by
    unfold fX0_isRepeated
    rcases same_01 S 2 0 with a | a <;> rcases same_01 S 2 1 with b | b <;> rw [a, b] <;> first | decide | rfl
  have r3 : fX0_isRepeated S (3 : Int32) = (if ((((0 : Int32) ||| (fX0_isSameLine S 3 0)) ||| (fX0_isSameLine S 3 1)) ||| (fX0_isSameLine S 3 2)) = 0 then (0 : Int32) else (1 : Int32)) := by
    unfold fX0_isRepeated
    rcases same_01 S 3 0 with a | a <;> rcases same_01 S 3 1 with b | b <;> rcases same_01 S 3 2 with c | c <;> rw [a, b, c] <;> first | decide | rfl
  have r4 : fX0_isRepeated S (4 : Int32) = (if (((((0 : Int32) ||| (fX0_isSameLine S 4 0)) ||| (fX0_isSameLine S 4 1)) ||| (fX0_isSameLine S 4 2)) ||| (fX0_isSameLine S 4 3)) = 0 then (0 : Int32) else (1 : Int32)) := by
    unfold fX0_isRepeated
    rcases same_01 S 4 0 with a | a <;> rcases same_01 S 4 1 with b | b <;> rcases same_01 S 4 2 with c | c <;> rcases same_01 S 4 3 with d | d <;> rw [a, b, c, d] <;> first | decide | rfl
  have r5 : fX0_isRepeated S (5 : Int32) = (if ((((((0 : Int32) ||| (fX0_isSameLine S 5 0)) ||| (fX0_isSameLine S 5 1)) ||| (fX0_isSameLine S 5 2)) ||| (fX0_isSameLine S 5 3)) ||| (fX0_isSameLine S 5 4)) = 0 then (0 : Int32) else (1 : Int32)) := by
    unfold fX0_isRepeated
    rcases same_01 S 5 0 with a | a <;> rcases same_01 S 5 1 with b | b <;> rcases same_01 S 5 2 with c | c <;> rcases same_01 S 5 3 with d | d <;> rcases same_01 S 5 4 with e | e <;> rw [a, b, c, d, e] <;> first | decide | rfl
  unfold fX2_likeOnes
  simp only [ord_same hI v1 v0, ord_same hI v2 v0, ord_same hI v2 v1, ord_same hI v3 v0, ord_same hI v3 v1, ord_same hI v3 v2, ord_same hI v4 v0, ord_same hI v4 v1, ord_same hI v4 v2, ord_same hI v4 v3, ord_same hI v5 v0, ord_same hI v5 v1, ord_same hI v5 v2, ord_same hI v5 v3, ord_same hI v5 v4]
  rw [← r1, ← r2, ← r3, ← r4, ← r5]
  unfold fX0_countRepeated
  have z : ∀ k : Int32, fX0_isRepeated S k = 0 ∨ fX0_isRepeated S k = 1 := fun k => by
    unfold fX0_isRepeated
    repeat' split
    all_goals decide
  rcases z 1 with a | a <;> rcases z 2 with b | b <;> rcases z 3 with c | c <;> rcases z 4 with d | d <;> rcases z 5 with e | e <;> rw [a, b, c, d, e] <;> first | decide | rfl
