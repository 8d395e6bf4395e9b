theorem line_gap {S : SX} {th : Int32} (hI : Inv S) {i j : Int32} (hi : vp_in i 6) (hj : vp_in j 6) : fX2_lineBetween (mkM th S) i j (5 : Int32) = fX0_gapInUnits S i j (5 : Int32) := by
  have a1 := hI.Drng hi
  have a2 := hI.Drng hj
  have z0 : (0 : Int64).toInt = 0 := by decide
  have l1 : (1 : Int64).toInt = 1 := by decide
  have hd := sL (x := xD S j.toNatClampNeg) (y := xD S i.toNatClampNeg) rfl rfl (by omega)
  have hr : -10000000 < (xD S j.toNatClampNeg).toInt - (xD S i.toNatClampNeg).toInt ∧ (xD S j.toNatClampNeg).toInt - (xD S i.toNatClampNeg).toInt < 10000000 := by omega
  have en : fX2_nanosOf (5 : Int32) = fX0_nanosOfUnit (5 : Int32) := by decide +kernel
  have e5 : ∀ x : Int64, fX0_quotient x (fX0_nanosOfUnit (5 : Int32)) = x / fX0_nanosOfUnit (5 : Int32) := fun x => quo (Q := 3600000000000) (by decide +kernel) (by decide)
  have em : ∀ k : Nat, mt (mkM th S) k = xN S k := fun _ => rfl
  unfold fX2_lineBetween fX0_gapInUnits
  rw [dayNow_eq hI hi, dayNow_eq hI hj]
  simp only [en, e5, em]
  generalize (xD S j.toNatClampNeg).toInt - (xD S i.toNatClampNeg).toInt = d at hd hr
  generalize xD S j.toNatClampNeg - xD S i.toNatClampNeg = dd at hd ⊢
  generalize xN S j.toNatClampNeg - xN S i.toNatClampNeg = nn
  by_cases c : lg_cmp dd (0 : Int64) ≤ 0
  · rw [if_pos c, if_pos c]
  · rw [if_neg c, if_neg c]
    by_cases c2 : 0 ≤ lg_cmp nn (0 : Int64)
    · rw [if_pos c2, if_pos c2]
    · rw [if_neg c2, if_neg c2]
      have hp : 0 < d := by
        have : ¬ dd.toInt ≤ (0 : Int64).toInt := fun z => c (lgc_le.mpr z)
        rw [hd, z0] at this
        omega
      exact if_pos (lgc_ge.mpr (by rw [sL hd l1 (by omega), z0]; omega))
theorem pair_eq {S : SX} (hI : Inv S) {k n : Int32} (hk : vp_in k 6) (hn : vp_in n 6) (d : Int64) : fX2_pair (mkM 0 S) d k n = fX0_mix (fX0_mix d ((fX0_order S k n).toInt64)) ((fX0_digitCount (fX0_gapInUnits S k n (5 : Int32))).toInt64) := by
  unfold fX2_pair fX0_mix
  rw [order_eq hI hk hn, line_gap hI hk hn]
  obtain ⟨k9, d9, hs⟩ := SS_of (fX0_gapInUnits S k n (5 : Int32))
  rw [dc_SS hs, hs.2.2.2.2.2]
theorem mom_eq {S : SX} (hI : Inv S) {k : Int32} (hk : vp_in k 6) (d : Int64) : fX2_mom (mkM 0 S) d k = fX0_mixMoment S d k := by
  have e1 : fX2_inYearNow (mkM 0 S) k = fX0_yearDay S k := in_eq (hI.at hk).2.1
  have e2 := wkn_eq (th := 0) hI hk
  have e3 : fX2_part (mkM 0 S) k (fX2_nanosOf (5 : Int32)) (24 : Int64) = fX0_hourOf (xN S k.toNatClampNeg) := by
    rw [show fX2_nanosOf (5 : Int32) = (3600000000000 : Int64) from by decide +kernel]
    exact hour_eq (hI.N hk)
  have e4 : fX2_part (mkM 0 S) k (fX2_nanosOf (4 : Int32)) (60 : Int64) = fX0_minuteOf (xN S k.toNatClampNeg) := by
    rw [show fX2_nanosOf (4 : Int32) = (60000000000 : Int64) from by decide +kernel]
    exact minute_eq (hI.N hk)
  have e5 : fX2_part (mkM 0 S) k (1000000000 : Int64) (60 : Int64) = fX0_secondOf (xN S k.toNatClampNeg) := second_eq (hI.N hk)
  have e6 : fX2_part (mkM 0 S) k (1 : Int64) (1000000000 : Int64) = fX0_nanoOfSecond (xN S k.toNatClampNeg) := nano_eq (hI.N hk)
  have e7 := dayNow_eq (th := 0) hI hk
  unfold fX2_mom fX0_mixMoment fX0_mix
  rw [e1, e2, e3, e4, e5, e6, e7]
  try rfl
theorem hs_eq {S : SX} (hI : Inv S) (d : Int64) (k : Int32) : fX2_hs (mkM 0 S) d k = fX0_mix d ((fX0_houseNumber S k).toInt64) := by
  unfold fX2_hs fX0_mix
  rw [house_eq hI]
  try rfl

set_option maxRecDepth 100000 in
theorem cmp_digest {S : SX} {T : SM} (hR : Rel S T) : fX0_digest S = (gX2_digest T).1 := by
  obtain ⟨⟨th, rfl⟩, hI⟩ := hR
  have e : (gX2_digest (mkM th S)).1 = (fX2_hs (mkM 0 S) (fX2_hs (mkM 0 S) (fX2_hs (mkM 0 S) (fX2_hs (mkM 0 S) (fX2_hs (mkM 0 S) (fX2_hs (mkM 0 S) (fX2_pair (mkM 0 S) (fX2_pair (mkM 0 S) (fX2_pair (mkM 0 S) (fX2_pair (mkM 0 S) (fX2_pair (mkM 0 S) (fX2_pair (mkM 0 S) (fX2_pair (mkM 0 S) (fX2_pair (mkM 0 S) (fX2_pair (mkM 0 S) (fX2_pair (mkM 0 S) (fX2_pair (mkM 0 S) (fX2_pair (mkM 0 S) (fX2_pair (mkM 0 S) (fX2_pair (mkM 0 S) (fX2_pair (mkM 0 S) (fX2_mom (mkM 0 S) (fX2_mom (mkM 0 S) (fX2_mom (mkM 0 S) (fX2_mom (mkM 0 S) (fX2_mom (mkM 0 S) (fX2_mom (mkM 0 S) (7643 : Int64) (0 : Int32)) (1 : Int32)) (2 : Int32)) (3 : Int32)) (4 : Int32)) (5 : Int32)) (0 : Int32) (1 : Int32)) (0 : Int32) (2 : Int32)) (0 : Int32) (3 : Int32)) (0 : Int32) (4 : Int32)) (0 : Int32) (5 : Int32)) (1 : Int32) (2 : Int32)) (1 : Int32) (3 : Int32)) (1 : Int32) (4 : Int32)) (1 : Int32) (5 : Int32)) (2 : Int32) (3 : Int32)) (2 : Int32) (4 : Int32)) (2 : Int32) (5 : Int32)) (3 : Int32) (4 : Int32)) (3 : Int32) (5 : Int32)) (4 : Int32) (5 : Int32)) (0 : Int32)) (1 : Int32)) (2 : Int32)) (3 : Int32)) (4 : Int32)) (5 : Int32)) * (31 : Int64) + (1 : Int64) := rfl
  rw [e]
  simp only [hs_eq hI, pair_eq hI v0 v1, pair_eq hI v0 v2, pair_eq hI v0 v3, pair_eq hI v0 v4, pair_eq hI v0 v5, pair_eq hI v1 v2, pair_eq hI v1 v3, pair_eq hI v1 v4, pair_eq hI v1 v5, pair_eq hI v2 v3, pair_eq hI v2 v4, pair_eq hI v2 v5, pair_eq hI v3 v4, pair_eq hI v3 v5, pair_eq hI v4 v5, mom_eq hI v0, mom_eq hI v1, mom_eq hI v2, mom_eq hI v3, mom_eq hI v4, mom_eq hI v5]
  unfold fX0_digest
  rw [sound_1 hI, if_neg (by decide)]
  rfl
