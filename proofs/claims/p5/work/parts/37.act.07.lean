theorem abs_sub {x y : Int64} (h : -10000000 < x.toInt ∧ x.toInt < 10000000) (g : -10000000 < y.toInt ∧ y.toInt < 10000000) : fJ9_abs_067f4 (x - y) = fJ9_abs_067f4 (y - x) := by
  have z : (0 : Int64).toInt = 0 := by decide
  have e1 := sL (x := x) (y := y) rfl rfl (by omega)
  have e2 := sL (x := y) (y := x) rfl rfl (by omega)
  unfold fJ9_abs_067f4
  by_cases c1 : x.toInt = y.toInt
  · have : x = y := Int64.toInt_inj.mp c1
    rw [this]
  by_cases c : y.toInt ≤ x.toInt
  · rw [if_pos (lgc_ge.mpr (by rw [e1, z]; omega)), if_neg (fun q => absurd (lgc_ge.mp q) (by rw [e2, z]; omega))]
    exact eqL e1 ((gL e2 (by omega)).trans (by omega))
  · rw [if_neg (fun q => absurd (lgc_ge.mp q) (by rw [e1, z]; omega)), if_pos (lgc_ge.mpr (by rw [e2, z]; omega))]
    exact eqL ((gL e1 (by omega)).trans (by omega)) e2
/-- a gap told or refused -/
theorem gap_eq {S : SX} {th : Int32} (hI : Inv S) {i j u : Int32} (hi : vp_in i 6) (hj : vp_in j 6) : gX2_betweenNow (mkM th S) i j u = mkM th (gX0_gapText S i j u) ∧ Inv (gX0_gapText S i j u) := by
  have eT3 : ∀ T : SM, (if 0 < (fX2_order T i j) then T else T) = T := fun T => ite_self _
  have eS : (if (9 : Int32) ≤ u then S else S) = S := ite_self _
  have hR : Inv (gX0_refuse S).2 := (refuse_eq (th := th) hI).2
  unfold gX2_betweenNow gX0_gapText fX0_isGapRefused
  rw [eT3, dayNow_eq hI hi, dayNow_eq hI hj, abs_sub (by have := hI.Drng hi; omega) (by have := hI.Drng hj; omega), eS]
  by_cases c0 : u = 0
  · have c8 : u ≤ (8 : Int32) := by rw [c0]; decide
    rw [if_pos c0, if_pos c0]
    by_cases c1 : (lg_cmp (fJ9_abs_067f4 ((xD S j.toNatClampNeg) - (xD S i.toNatClampNeg))) (100000 : Int64)) ≤ 0
    · rw [if_pos c1, if_pos rfl, if_pos rfl]
      exact ⟨rfl, hI⟩
    · rw [if_neg c1, if_neg (by decide), if_neg (by decide)]
      exact ⟨rfl, hR⟩
  · rw [if_neg c0, if_neg c0]
    by_cases c8 : u ≤ (8 : Int32)
    · have c9 : u < (9 : Int32) := by
        have := Int32.le_iff_toInt_le.mp c8
        rw [show (8 : Int32).toInt = 8 from by decide] at this
        refine Int32.lt_iff_toInt_lt.mpr ?_
        rw [show (9 : Int32).toInt = 9 from by decide]
        omega
      rw [if_pos c8, if_pos c9, if_pos rfl]
      exact ⟨rfl, hI⟩
    · have c9 : ¬ u < (9 : Int32) := by
        intro z
        have := Int32.lt_iff_toInt_lt.mp z
        rw [show (9 : Int32).toInt = 9 from by decide] at this
        exact c8 (Int32.le_iff_toInt_le.mpr (by rw [show (8 : Int32).toInt = 8 from by decide]; omega))
      rw [if_neg c8, if_neg c9]
      by_cases c28 : (28 : Int32) < (xd S i.toNatClampNeg)
      · rw [if_pos c28, if_pos (show (28 : Int32) < (md (mkM th S) i.toNatClampNeg) from c28), if_neg (by decide)]
        exact ⟨rfl, hR⟩
      · rw [if_neg c28, if_neg (show ¬ (28 : Int32) < (md (mkM th S) i.toNatClampNeg) from c28)]
        by_cases d28 : (xd S j.toNatClampNeg) ≤ (28 : Int32)
        · rw [if_pos d28, if_pos (show (md (mkM th S) j.toNatClampNeg) ≤ (28 : Int32) from d28), if_pos rfl]
          exact ⟨rfl, hI⟩
        · rw [if_neg d28, if_neg (show ¬ (md (mkM th S) j.toNatClampNeg) ≤ (28 : Int32) from d28), if_neg (by decide)]
          exact ⟨rfl, hR⟩
/-! what the methods' table wants -/
theorem GO.of {th : Int32} {A A' : Int32 × SM} {B : Int32 × SX} (e : A = A') (h : GO th A' B) : GO th A B := by rw [e]; exact h
theorem fin_W {A : Int32 × SM} {B : Int32 × SX} (g : GO 0 A B) : Rel B.2 A.2 ∧ (fX2_thrown A.2 = 0 ∧ ((0 : Int32) = 0 → B.1.toInt64 = (A.1).toInt64)) := by
  obtain ⟨e, i⟩ := g
  rw [e]
  exact ⟨⟨⟨0, rfl⟩, i⟩, rfl, fun _ => rfl⟩
theorem ite_both {α : Type} {b : Prop} [Decidable b] {x y z : α} (h1 : x = z) (h2 : y = z) : (if b then x else y) = z := by
  by_cases h : b
  · rw [if_pos h]; exact h1
  · rw [if_neg h]; exact h2
theorem wkn_eq {S : SX} {th : Int32} (hI : Inv S) {i : Int32} (hi : vp_in i 6) : fX2_weekDayNow (mkM th S) i = fX0_weekday (xD S i.toNatClampNeg) := by
  unfold fX2_weekDayNow
  rw [dayNow_eq hI hi]
  have := hI.Drng hi
  exact wk_eq (by omega)
