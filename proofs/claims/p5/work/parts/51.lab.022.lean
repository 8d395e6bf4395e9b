-- like like_eq_new
theorem like_eq_new {S : SX} {th : Int32} (hI : Inv S) : fX2_likeOnes (mkM th S) = fX0_countRepeated S := by
  unfold fX2_likeOnes
  simp only [ord_same hI v1 v0, ord_same hI v2 v0, ord_same hI v2 v1, ord_same hI v3 v0, ord_same hI v3 v1, ord_same hI v3 v2, ord_same hI v4 v0, ord_same hI v4 v1, ord_same hI v4 v2, ord_same hI v4 v3, ord_same hI v5 v0, ord_same hI v5 v1, ord_same hI v5 v2, ord_same hI v5 v3, ord_same hI v5 v4]
  rw [← rep_1, ← rep_2, ← rep_3, ← rep_4, ← rep_5]
  exact count_sum S

