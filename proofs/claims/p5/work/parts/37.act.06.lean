/-- the moment's time out of the hands, class and reference -/
theorem hand_go {S : SX} {th u : Int32} (hI : Inv S) (hu : 0 ≤ u.toInt ∧ u.toInt ≤ 6) : (u = 6 → fX2_handTime (mkM th S) (2 : Int32) = fX0_handTime S u) ∧ (¬ u = 6 → fX2_handTime (mkM th S) (u - u / (3 : Int32) * (3 : Int32)) = fX0_handTime S u) ∧ TV (fX0_handTime S u) := by
  by_cases h6 : u = 6
  · have k := hand2 (th := th) (q := 2) hI (Or.inl h6) (by decide) (by decide)
    exact ⟨fun _ => k.1, fun z => absurd h6 z, k.2⟩
  have key : fX2_handTime (mkM th S) (u - u / (3 : Int32) * (3 : Int32)) = fX0_handTime S u ∧ TV (fX0_handTime S u) := by
    rcases en8 (u := u) ⟨hu.1, by omega⟩ with rfl | rfl | rfl | rfl | rfl | rfl | rfl | rfl
    · exact hand0 hI (by decide) (by decide) (by decide) (by decide) (by decide)
    · exact hand1 hI (by decide) (by decide) (by decide) (by decide) (by decide)
    · exact hand2 hI (Or.inr ⟨by decide, by decide, by decide⟩) (by decide) (by decide)
    · exact hand0 hI (by decide) (by decide) (by decide) (by decide) (by decide)
    · exact hand1 hI (by decide) (by decide) (by decide) (by decide) (by decide)
    · exact hand2 hI (Or.inr ⟨by decide, by decide, by decide⟩) (by decide) (by decide)
    · exact absurd rfl h6
    · exact hand1 hI (by decide) (by decide) (by decide) (by decide) (by decide)
  exact ⟨fun z => absurd z h6, fun _ => key.1, key.2⟩
theorem lgc_sub {x y : Int64} (h : B64 (x.toInt - y.toInt)) : lg_cmp (x - y) (0 : Int64) = lg_cmp x y := by
  have e := sL (x := x) (y := y) rfl rfl h
  have z : (0 : Int64).toInt = 0 := by decide
  rcases lgc_cases x y with ⟨a, b⟩ | ⟨a, b⟩ | ⟨a, b⟩ <;> rcases lgc_cases (x - y) 0 with ⟨c, d⟩ | ⟨c, d⟩ | ⟨c, d⟩ <;> rw [e, z] at c <;> first | (rw [b, d]; done) | (exfalso; omega)
theorem ord_pure (u v : Int32) (hu : u = -1 ∨ u = 0 ∨ u = 1) (hv : v = -1 ∨ v = 0 ∨ v = 1) : (if u = 0 then (if 0 ≤ v then (if v ≤ 0 then (0 : Int32) else (1 : Int32)) else (-1 : Int32)) else if 0 ≤ u then (if u ≤ 0 then (0 : Int32) else (1 : Int32)) else (-1 : Int32)) = (if u = 0 then (if v = 0 then (0 : Int32) else if 0 ≤ v then (1 : Int32) else (-1 : Int32)) else if 0 ≤ u then (1 : Int32) else (-1 : Int32)) := by
  rcases hu with rfl | rfl | rfl <;> rcases hv with rfl | rfl | rfl <;> decide
theorem lgc_3 (x y : Int64) : lg_cmp x y = -1 ∨ lg_cmp x y = 0 ∨ lg_cmp x y = 1 := by
  rcases lgc_cases x y with ⟨a, b⟩ | ⟨a, b⟩ | ⟨a, b⟩
  · exact Or.inl b
  · exact Or.inr (Or.inl b)
  · exact Or.inr (Or.inr b)
theorem order_eq {S : SX} {th : Int32} (hI : Inv S) {i j : Int32} (hi : vp_in i 6) (hj : vp_in j 6) : fX2_order (mkM th S) i j = fX0_order S i j := by
  have a1 := hI.Drng hi
  have a2 := hI.Drng hj
  have b1 := hI.N hi
  have b2 := hI.N hj
  unfold TV at b1 b2
  have e1 : lg_cmp (fX2_dayNow (mkM th S) i - fX2_dayNow (mkM th S) j) (0 : Int64) = lg_cmp (xD S i.toNatClampNeg) (xD S j.toNatClampNeg) := by
    rw [dayNow_eq hI hi, dayNow_eq hI hj]
    exact lgc_sub (by unfold B64; omega)
  have e2 : lg_cmp ((mt (mkM th S) i.toNatClampNeg) - (mt (mkM th S) j.toNatClampNeg)) (0 : Int64) = lg_cmp (xN S i.toNatClampNeg) (xN S j.toNatClampNeg) := lgc_sub (x := xN S i.toNatClampNeg) (y := xN S j.toNatClampNeg) (by unfold B64; omega)
  unfold fX2_order fX0_order
  rw [e1, e2]
  exact ord_pure _ _ (lgc_3 _ _) (lgc_3 _ _)
theorem same_pure (u v : Int32) (hu : u = -1 ∨ u = 0 ∨ u = 1) (hv : v = -1 ∨ v = 0 ∨ v = 1) : (if (if u = 0 then (if v = 0 then (0 : Int32) else if 0 ≤ v then (1 : Int32) else (-1 : Int32)) else if 0 ≤ u then (1 : Int32) else (-1 : Int32)) = 0 then (1 : Int32) else (0 : Int32)) = (if u = 0 then (if v = 0 then (1 : Int32) else (0 : Int32)) else (0 : Int32)) := by
  rcases hu with rfl | rfl | rfl <;> rcases hv with rfl | rfl | rfl <;> decide
theorem same_eq {S : SX} {i j : Int32} : (if fX0_order S i j = 0 then (1 : Int32) else (0 : Int32)) = fX0_isSameLine S i j := by
  unfold fX0_order fX0_isSameLine
  exact same_pure _ _ (lgc_3 _ _) (lgc_3 _ _)
