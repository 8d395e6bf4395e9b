theorem outer_eq {S : SX} {th : Int32} (hI : Inv S) (q : Int32) : fX2_outer (mkM th S) q = fX0_outermost S q := by
  unfold fX2_outer fX0_outermost
  simp only [order_eq (th := th) hI v1 v0, order_eq (th := th) hI v2 v0, order_eq (th := th) hI v2 v1, order_eq (th := th) hI v3 v0, order_eq (th := th) hI v3 v1, order_eq (th := th) hI v3 v2, order_eq (th := th) hI v4 v0, order_eq (th := th) hI v4 v1, order_eq (th := th) hI v4 v2, order_eq (th := th) hI v4 v3, order_eq (th := th) hI v5 v0, order_eq (th := th) hI v5 v1, order_eq (th := th) hI v5 v2, order_eq (th := th) hI v5 v3, order_eq (th := th) hI v5 v4]
theorem house_eq {S : SX} {th : Int32} (hI : Inv S) {q : Int32} : fX2_houseNow (mkM th S) q = fX0_house S q := by
  unfold fX2_houseNow fX0_house fX0_houseNumber
  rw [like_eq hI, outer_eq hI, outer_eq hI]
  rfl
theorem rel_knock {S : SX} {T : SM} (hR : Rel S T) : Rel (gX0_knock S).2 (gX2_knock T).2 := by
  obtain ⟨⟨th, rfl⟩, hI⟩ := hR
  exact ⟨⟨0, rfl⟩, hI⟩
theorem cmp_knock {S : SX} {T : SM} (hR : Rel S T) : (gX0_knock S).1 = (gX2_knock T).1 := by
  obtain ⟨⟨th, rfl⟩, hI⟩ := hR
  rfl
theorem rel_isSound {S : SX} {T : SM} (hR : Rel S T) : Rel S (gX2_isSound T).2 := by
  obtain ⟨⟨th, rfl⟩, hI⟩ := hR
  exact ⟨⟨0, rfl⟩, hI⟩
