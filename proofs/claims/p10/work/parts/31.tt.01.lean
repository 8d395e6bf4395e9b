set_option maxRecDepth 100000 in
set_option maxHeartbeats 4000000 in
theorem t_gapText (l : Launch) (G : GT) (a : Nat → Nat) (S : SX) (p0 : Int32) (p1 : Int32) (p2 : Int32) (h0 : vp_in p0 6) (h1 : vp_in p1 6) : WE l G yX0_gapText cX0_gapText 4 (some (.object "java/lang/String")) 9 30 800 [.ref (a 0), .int p0, .int p1, .int p2] (wX G a S) (fun r wd => (∃ q : Nat, r = some (.ref q)) ∧ wd = wX G a (gX0_gapText S p0 p1 p2)) := by
  refine WE.ofW (own := RX0) rfl (by decide +kernel) (Nat.le_of_ble_eq_true rfl) ?_
  intro p e s m below meth c A C hr hk hnm hE hP hD hA hAB hS ls hl
  have hx := C.1
  have hb := C.2.1
  have hml := C.2.2.1
  have hown := C.2.2.2.1
  have hw := C.2.2.2.2
  have hl : lv_has ls 4 [(0, .ref (a 0)), (1, .int p0), (2, .int p1), (3, .int p2)] := hl
  refine lv_aload_n hx hb dX0_gapText_0 rfl (lv_at hl 0 rfl) ?_
  refine lv_iload_n hx hb dX0_gapText_1 rfl (lv_at hl 1 rfl) ?_
  refine lv_iload_n hx hb dX0_gapText_2 rfl (lv_at hl 2 rfl) ?_
  refine lv_iload_n hx hb dX0_gapText_3 rfl (lv_at hl 3 rfl) ?_
  refine rcVi (as := [.int p0, .int p1, .int p2]) (rest := []) (cl := RX0) C (c_X0_isGapRefused l G a S p0 p1 p2 h0 h1) F_X0_isGapRefused rfl bw1129 bw1131 bw30 (hE.S hS hAB) hP (rv2 hE.K hP (q0 := 0) rfl) hl.1 dX0_gapText_4 ⟨Nat.le_of_ble_eq_true rfl, Nat.le_of_ble_eq_true rfl⟩ rfl (Nat.le_of_ble_eq_true rfl) ⟨Nat.le_of_ble_eq_true rfl, Nat.le_of_ble_eq_true rfl⟩ ?_
  refine lv_if_eq (tgt := 19) hx hb dX0_gapText_7 (by decide) (fun c_1 => ?_) (fun c_1 => ?_)
  · refine lv_iload_n hx hb dX0_gapText_19 rfl (lv_at hl 3 rfl) ?_
    refine lv_bipush (v := (9 : Int32)) hx hb dX0_gapText_20 (by decide) ?_
    refine lv_icmp_ge (tgt := 36) hx hb dX0_gapText_22 (by decide) (fun c_2 => ?_) (fun c_2 => ?_)
    · refine lv_aload_n hx hb dX0_gapText_36 rfl (lv_at hl 0 rfl) ?_
      refine lv_iload_n hx hb dX0_gapText_37 rfl (lv_at hl 1 rfl) ?_
      refine lv_iload_n hx hb dX0_gapText_38 rfl (lv_at hl 2 rfl) ?_
      refine rcVl (as := [.int p0, .int p1]) (rest := []) (cl := RX0) C (c_X0_gapInMonths l G a S p0 p1 h0 h1) F_X0_gapInMonths rfl bw1135 bw1137 bw31 (hE.S hS hAB) hP (rv2 hE.K hP (q0 := 0) rfl) hl.1 dX0_gapText_39 ⟨Nat.le_of_ble_eq_true rfl, Nat.le_of_ble_eq_true rfl⟩ rfl (Nat.le_of_ble_eq_true rfl) ⟨Nat.le_of_ble_eq_true rfl, Nat.le_of_ble_eq_true rfl⟩ ?_
      refine lv_iload_n hx hb dX0_gapText_42 rfl (lv_at hl 3 rfl) ?_
      refine rcSl (as := [.int p2]) (rest := [.long (fX0_gapInMonths S p0 p1)]) C (c_X0_monthsOfUnit l G p2) F_X0_monthsOfUnit rfl bw677 bw678 (hE.S hS hAB) vpn hl.1 dX0_gapText_43 ⟨Nat.le_of_ble_eq_true rfl, Nat.le_of_ble_eq_true rfl⟩ rfl (Nat.le_of_ble_eq_true rfl) ⟨Nat.le_of_ble_eq_true rfl, Nat.le_of_ble_eq_true rfl⟩ ?_
      refine rcSl (as := [.long (fX0_gapInMonths S p0 p1), .long (fX0_monthsOfUnit p2)]) (rest := []) C (c_X0_quotient l G (fX0_gapInMonths S p0 p1) (fX0_monthsOfUnit p2)) F_X0_quotient rfl bw229 bw230 (hE.S hS hAB) vpn hl.1 dX0_gapText_46 ⟨Nat.le_of_ble_eq_true rfl, Nat.le_of_ble_eq_true rfl⟩ rfl (Nat.le_of_ble_eq_true rfl) ⟨Nat.le_of_ble_eq_true rfl, Nat.le_of_ble_eq_true rfl⟩ ?_
      have hP9 := P_nil hP
      have hD9 := D_nil hD
      refine weS (wr := (wX G a S)) (wd := []) (as := [.long (fX0_quotient (fX0_gapInMonths S p0 p1) (fX0_monthsOfUnit p2))]) (rest := []) C (s_digitsOf l G (fX0_quotient (fX0_gapInMonths S p0 p1) (fX0_monthsOfUnit p2))) F_X0_digitsOf rfl bw774 bw775 (hE.S hS hAB) hP9 hD9 hS hA hAB hl.1 dX0_gapText_49 ⟨Nat.le_of_ble_eq_true rfl, Nat.le_of_ble_eq_true rfl⟩ rfl (Nat.le_of_ble_eq_true rfl) ⟨Nat.le_of_ble_eq_true rfl, Nat.le_of_ble_eq_true rfl⟩ (fun r9 wd9 H locs hp9 hP hD hS => ?_)
      obtain ⟨⟨q9_49, rfl⟩, rfl⟩ := hp9
      have hP : va_P (gD G) vwCl (wX G a S) H := by rw [List.append_nil] at hP; exact hP
      have hD : va_D A (wX G a S) := by rw [List.append_nil] at hD; exact hD
      refine W.eq (g2 := F0 m 52 ls [.ref q9_49]) rfl ?_
      exact weA hx hb hr (Or.inl ⟨_, rfl⟩) hk ⟨⟨_, rfl⟩, (congrArg (wX G a) (show gX0_gapText S p0 p1 p2 = S from (Eq.trans (if_pos c_1) (if_pos c_2))).symm)⟩ hP hD hS (Nat.le_of_ble_eq_true rfl) (Nat.le_of_ble_eq_true rfl) dX0_gapText_52
    · refine lv_aload_n hx hb dX0_gapText_25 rfl (lv_at hl 0 rfl) ?_
      refine lv_iload_n hx hb dX0_gapText_26 rfl (lv_at hl 1 rfl) ?_
      refine lv_iload_n hx hb dX0_gapText_27 rfl (lv_at hl 2 rfl) ?_
      refine lv_iload_n hx hb dX0_gapText_28 rfl (lv_at hl 3 rfl) ?_
      refine rcVl (as := [.int p0, .int p1, .int p2]) (rest := []) (cl := RX0) C (c_X0_gapInUnits l G a S p0 p1 p2 h0 h1) F_X0_gapInUnits rfl bw244 bw246 bw11 (hE.S hS hAB) hP (rv2 hE.K hP (q0 := 0) rfl) hl.1 dX0_gapText_29 ⟨Nat.le_of_ble_eq_true rfl, Nat.le_of_ble_eq_true rfl⟩ rfl (Nat.le_of_ble_eq_true rfl) ⟨Nat.le_of_ble_eq_true rfl, Nat.le_of_ble_eq_true rfl⟩ ?_
      have hP9 := P_nil hP
      have hD9 := D_nil hD
      refine weS (wr := (wX G a S)) (wd := []) (as := [.long (fX0_gapInUnits S p0 p1 p2)]) (rest := []) C (s_digitsOf l G (fX0_gapInUnits S p0 p1 p2)) F_X0_digitsOf rfl bw774 bw775 (hE.S hS hAB) hP9 hD9 hS hA hAB hl.1 dX0_gapText_32 ⟨Nat.le_of_ble_eq_true rfl, Nat.le_of_ble_eq_true rfl⟩ rfl (Nat.le_of_ble_eq_true rfl) ⟨Nat.le_of_ble_eq_true rfl, Nat.le_of_ble_eq_true rfl⟩ (fun r9 wd9 H locs hp9 hP hD hS => ?_)
      obtain ⟨⟨q9_32, rfl⟩, rfl⟩ := hp9
      have hP : va_P (gD G) vwCl (wX G a S) H := by rw [List.append_nil] at hP; exact hP
      have hD : va_D A (wX G a S) := by rw [List.append_nil] at hD; exact hD
      refine W.eq (g2 := F0 m 35 ls [.ref q9_32]) rfl ?_
      exact weA hx hb hr (Or.inl ⟨_, rfl⟩) hk ⟨⟨_, rfl⟩, (congrArg (wX G a) (show gX0_gapText S p0 p1 p2 = S from (Eq.trans (if_pos c_1) (if_neg c_2))).symm)⟩ hP hD hS (Nat.le_of_ble_eq_true rfl) (Nat.le_of_ble_eq_true rfl) dX0_gapText_35
  · refine lv_aload_n hx hb dX0_gapText_10 rfl (lv_at hl 0 rfl) ?_
    refine wcVi (as := []) (rest := []) (cl := RX0) C (c_X0_refuse l G a S) F_X0_refuse rfl bw414 bw416 bw20 (hE.S hS hAB) hP hD hS hA hAB (rv2 hE.K hP (q0 := 0) rfl) hl.1 dX0_gapText_11 ⟨Nat.le_of_ble_eq_true rfl, Nat.le_of_ble_eq_true rfl⟩ rfl (Nat.le_of_ble_eq_true rfl) ⟨Nat.le_of_ble_eq_true rfl, Nat.le_of_ble_eq_true rfl⟩ (fun H locs hP hD hS => ?_)
    refine lv_pop hx hb dX0_gapText_14 rfl ?_
    refine k_ldcwS hx hb hown hE.1.2.2.2.1 dX0_gapText_15 ?_
    exact weA hx hb hr (Or.inl ⟨_, rfl⟩) hk ⟨⟨_, rfl⟩, (congrArg (wX G a) (show gX0_gapText S p0 p1 p2 = (gX0_refuse S).2 from (if_neg c_1)).symm)⟩ hP hD hS (Nat.le_of_ble_eq_true rfl) (Nat.le_of_ble_eq_true rfl) dX0_gapText_18

set_option maxRecDepth 100000 in
set_option maxHeartbeats 4000000 in
theorem t_between (l : Launch) (G : GT) (a : Nat → Nat) (S : SX) (p0 : Int32) (p1 : Int32) (p2 : Int32) (h0 : vp_in p0 6) (h1 : vp_in p1 6) (r2 : ¬ p2 < (0 : Int32)) (q2 : p2 ≤ (13 : Int32)) : WE l G yX0_between cX0_between 4 (some (.object "java/lang/String")) 10 30 800 [.ref (a 0), .int p0, .int p1, .int p2] (wX G a S) (fun r wd => (∃ q : Nat, r = some (.ref q)) ∧ wd = wX G a (gX0_between S p0 p1 p2)) := by
  refine WE.ofW (own := RX0) rfl (by decide +kernel) (Nat.le_of_ble_eq_true rfl) ?_
  intro p e s m below meth c A C hr hk hnm hE hP hD hA hAB hS ls hl
  have hx := C.1
  have hb := C.2.1
  have hml := C.2.2.1
  have hown := C.2.2.2.1
  have hw := C.2.2.2.2
  have hl : lv_has ls 4 [(0, .ref (a 0)), (1, .int p0), (2, .int p1), (3, .int p2)] := hl
  refine lv_iload_n hx hb dX0_between_0 rfl (lv_at hl 1 rfl) ?_
  refine rcSv (as := [.int p0]) (rest := []) C (c_X0_checkMoment l G p0 h0) F_X0_checkMoment rfl bw387 bw388 (hE.S hS hAB) vpn hl.1 dX0_between_1 ⟨Nat.le_of_ble_eq_true rfl, Nat.le_of_ble_eq_true rfl⟩ rfl (Nat.le_of_ble_eq_true rfl) ⟨Nat.le_of_ble_eq_true rfl, Nat.le_of_ble_eq_true rfl⟩ ?_
  refine lv_iload_n hx hb dX0_between_4 rfl (lv_at hl 2 rfl) ?_
  refine rcSv (as := [.int p1]) (rest := []) C (c_X0_checkMoment l G p1 h1) F_X0_checkMoment rfl bw387 bw388 (hE.S hS hAB) vpn hl.1 dX0_between_5 ⟨Nat.le_of_ble_eq_true rfl, Nat.le_of_ble_eq_true rfl⟩ rfl (Nat.le_of_ble_eq_true rfl) ⟨Nat.le_of_ble_eq_true rfl, Nat.le_of_ble_eq_true rfl⟩ ?_
  refine lv_iload_n hx hb dX0_between_8 rfl (lv_at hl 3 rfl) ?_
  refine lv_iconst (v := (0 : Int32)) hx hb dX0_between_9 (by decide) ?_
  refine lv_bipush (v := (13 : Int32)) hx hb dX0_between_10 (by decide) ?_
  refine rcSv (as := [.int p2, .int (0 : Int32), .int (13 : Int32)]) (rest := []) C (c_X0_checkRange l G p2 (0 : Int32) (13 : Int32) r2 q2) F_X0_checkRange rfl bw308 bw309 (hE.S hS hAB) vpn hl.1 dX0_between_12 ⟨Nat.le_of_ble_eq_true rfl, Nat.le_of_ble_eq_true rfl⟩ rfl (Nat.le_of_ble_eq_true rfl) ⟨Nat.le_of_ble_eq_true rfl, Nat.le_of_ble_eq_true rfl⟩ ?_
  refine lv_aload_n hx hb dX0_between_15 rfl (lv_at hl 0 rfl) ?_
  refine lv_iload_n hx hb dX0_between_16 rfl (lv_at hl 1 rfl) ?_
  refine lv_iload_n hx hb dX0_between_17 rfl (lv_at hl 2 rfl) ?_
  refine lv_iload_n hx hb dX0_between_18 rfl (lv_at hl 3 rfl) ?_
  refine weVf (wr := []) (wd := (wX G a S)) (as := [.int p0, .int p1, .int p2]) (rest := []) (cl := RX0) C (t_gapText l G a S p0 p1 p2 h0 h1) F_X0_gapText rfl bw1125 bw1127 (hw _ bw29) (hE.S hS hAB) hP hD hS hA hAB (rv2 hE.K hP (q0 := 0) rfl) hl.1 dX0_between_19 ⟨Nat.le_of_ble_eq_true rfl, Nat.le_of_ble_eq_true rfl⟩ rfl (Nat.le_of_ble_eq_true rfl) ⟨Nat.le_of_ble_eq_true rfl, Nat.le_of_ble_eq_true rfl⟩ (fun r9 wd9 H locs hp9 hP hD hS => ?_)
  obtain ⟨⟨q9_19, rfl⟩, rfl⟩ := hp9
  have hP : va_P (gD G) vwCl (wX G a (gX0_gapText S p0 p1 p2)) H := hP
  have hD : va_D A (wX G a (gX0_gapText S p0 p1 p2)) := hD
  refine W.eq (g2 := F0 m 22 ls [.ref q9_19]) rfl ?_
  exact weA hx hb hr (Or.inl ⟨_, rfl⟩) hk ⟨⟨_, rfl⟩, (congrArg (wX G a) (show gX0_between S p0 p1 p2 = (gX0_gapText S p0 p1 p2) from rfl).symm)⟩ hP hD hS (Nat.le_of_ble_eq_true rfl) (Nat.le_of_ble_eq_true rfl) dX0_between_22

set_option maxRecDepth 100000 in
set_option maxHeartbeats 4000000 in
theorem t_until (l : Launch) (G : GT) (a : Nat → Nat) (S : SX) (p0 : Int32) (p1 : Int32) (p2 : Int32) (h0 : vp_in p0 6) (h1 : vp_in p1 6) (r2 : ¬ p2 < (0 : Int32)) (q2 : p2 ≤ (13 : Int32)) : WE l G yX0_until cX0_until 4 (some (.object "java/lang/String")) 10 30 800 [.ref (a 0), .int p0, .int p1, .int p2] (wX G a S) (fun r wd => (∃ q : Nat, r = some (.ref q)) ∧ wd = wX G a (gX0_until S p0 p1 p2)) := by
  refine WE.ofW (own := RX0) rfl (by decide +kernel) (Nat.le_of_ble_eq_true rfl) ?_
  intro p e s m below meth c A C hr hk hnm hE hP hD hA hAB hS ls hl
  have hx := C.1
  have hb := C.2.1
  have hml := C.2.2.1
  have hown := C.2.2.2.1
  have hw := C.2.2.2.2
  have hl : lv_has ls 4 [(0, .ref (a 0)), (1, .int p0), (2, .int p1), (3, .int p2)] := hl
  refine lv_iload_n hx hb dX0_until_0 rfl (lv_at hl 1 rfl) ?_
  refine rcSv (as := [.int p0]) (rest := []) C (c_X0_checkMoment l G p0 h0) F_X0_checkMoment rfl bw387 bw388 (hE.S hS hAB) vpn hl.1 dX0_until_1 ⟨Nat.le_of_ble_eq_true rfl, Nat.le_of_ble_eq_true rfl⟩ rfl (Nat.le_of_ble_eq_true rfl) ⟨Nat.le_of_ble_eq_true rfl, Nat.le_of_ble_eq_true rfl⟩ ?_
  refine lv_iload_n hx hb dX0_until_4 rfl (lv_at hl 2 rfl) ?_
  refine rcSv (as := [.int p1]) (rest := []) C (c_X0_checkMoment l G p1 h1) F_X0_checkMoment rfl bw387 bw388 (hE.S hS hAB) vpn hl.1 dX0_until_5 ⟨Nat.le_of_ble_eq_true rfl, Nat.le_of_ble_eq_true rfl⟩ rfl (Nat.le_of_ble_eq_true rfl) ⟨Nat.le_of_ble_eq_true rfl, Nat.le_of_ble_eq_true rfl⟩ ?_
  refine lv_iload_n hx hb dX0_until_8 rfl (lv_at hl 3 rfl) ?_
  refine lv_iconst (v := (0 : Int32)) hx hb dX0_until_9 (by decide) ?_
  refine lv_bipush (v := (13 : Int32)) hx hb dX0_until_10 (by decide) ?_
  refine rcSv (as := [.int p2, .int (0 : Int32), .int (13 : Int32)]) (rest := []) C (c_X0_checkRange l G p2 (0 : Int32) (13 : Int32) r2 q2) F_X0_checkRange rfl bw308 bw309 (hE.S hS hAB) vpn hl.1 dX0_until_12 ⟨Nat.le_of_ble_eq_true rfl, Nat.le_of_ble_eq_true rfl⟩ rfl (Nat.le_of_ble_eq_true rfl) ⟨Nat.le_of_ble_eq_true rfl, Nat.le_of_ble_eq_true rfl⟩ ?_
  refine lv_aload_n hx hb dX0_until_15 rfl (lv_at hl 0 rfl) ?_
  refine lv_iload_n hx hb dX0_until_16 rfl (lv_at hl 1 rfl) ?_
  refine lv_iload_n hx hb dX0_until_17 rfl (lv_at hl 2 rfl) ?_
  refine lv_iload_n hx hb dX0_until_18 rfl (lv_at hl 3 rfl) ?_
  refine weVf (wr := []) (wd := (wX G a S)) (as := [.int p0, .int p1, .int p2]) (rest := []) (cl := RX0) C (t_gapText l G a S p0 p1 p2 h0 h1) F_X0_gapText rfl bw1125 bw1127 (hw _ bw29) (hE.S hS hAB) hP hD hS hA hAB (rv2 hE.K hP (q0 := 0) rfl) hl.1 dX0_until_19 ⟨Nat.le_of_ble_eq_true rfl, Nat.le_of_ble_eq_true rfl⟩ rfl (Nat.le_of_ble_eq_true rfl) ⟨Nat.le_of_ble_eq_true rfl, Nat.le_of_ble_eq_true rfl⟩ (fun r9 wd9 H locs hp9 hP hD hS => ?_)
  obtain ⟨⟨q9_19, rfl⟩, rfl⟩ := hp9
  have hP : va_P (gD G) vwCl (wX G a (gX0_gapText S p0 p1 p2)) H := hP
  have hD : va_D A (wX G a (gX0_gapText S p0 p1 p2)) := hD
  refine W.eq (g2 := F0 m 22 ls [.ref q9_19]) rfl ?_
  exact weA hx hb hr (Or.inl ⟨_, rfl⟩) hk ⟨⟨_, rfl⟩, (congrArg (wX G a) (show gX0_until S p0 p1 p2 = (gX0_gapText S p0 p1 p2) from rfl).symm)⟩ hP hD hS (Nat.le_of_ble_eq_true rfl) (Nat.le_of_ble_eq_true rfl) dX0_until_22

