set_option maxRecDepth 100000 in
set_option maxHeartbeats 4000000 in
theorem t_nanoOfDay (l : Launch) (G : GT) (a : Nat → Nat) (S : SX) (p0 : Int32) (h0 : vp_in p0 6) : WE l G yX0_nanoOfDay cX0_nanoOfDay 2 (some (.object "java/lang/String")) 9 30 800 [.ref (a 0), .int p0] (wX G a S) (fun r wd => ∃ (q : Nat) (ws : va_W), r = some (.ref q) ∧ wd = wX G a (gX0_nanoOfDay S p0) ++ ws ∧ TXO G q (oX0_nanoOfDay S p0) ws) := by
  refine WE.ofW (own := RX0) rfl (plainFor_of_name pnN_RX0) (Nat.le_of_ble_eq_true rfl) ?_
  intro p e s m below meth c A C hr hk hnm hE hP hD hA hAB hS ls hl
  have hx := C.1
  have hb := C.2.1
  have hml := C.2.2.1
  have hown := C.2.2.2.1
  have hw := C.2.2.2.2
  have hl : lv_has ls 2 [(0, .ref (a 0)), (1, .int p0)] := hl
  refine lv_iload_n hx hb dX0_nanoOfDay_0 rfl (lv_at hl 1 rfl) ?_
  refine rcSv (as := [.int p0]) (rest := []) C (c_X0_checkMoment l G p0 h0) F_X0_checkMoment rfl bw387 bw388 (hE.S hS hAB) vpn hl.1 dX0_nanoOfDay_1 ⟨Nat.le_of_ble_eq_true rfl, Nat.le_of_ble_eq_true rfl⟩ rfl (Nat.le_of_ble_eq_true rfl) ⟨Nat.le_of_ble_eq_true rfl, Nat.le_of_ble_eq_true rfl⟩ ?_
  refine lv_aload_n hx hb dX0_nanoOfDay_4 rfl (lv_at hl 0 rfl) ?_
  refine va_get (D := gD G) (cl := vwCl) (tys := gT G) (ci := 2) (v := .ref (a 5)) (C := RX0) (T := TX0) (N := 12) hx hb hw inB_X0 hown hE.K hP 0 rfl rfl 4 (by decide) (hw _ bw98) (fun _ h9 => h9) rfl dX0_nanoOfDay_5 ?_
  refine lv_iload_n hx hb dX0_nanoOfDay_8 rfl (lv_at hl 1 rfl) ?_
  refine va_lald (tys := gT G) hx hb hE.K hP 5 1 rfl rfl h0 dX0_nanoOfDay_9 ?_
  have hP9 := P_nil hP
  have hD9 := D_nil hD
  refine weS (wr := (wX G a S)) (wd := []) (as := [.long ((xN S) p0.toNatClampNeg)]) (rest := []) C (s_digitsOf l G ((xN S) p0.toNatClampNeg)) F_X0_digitsOf rfl bw774 bw775 (hE.S hS hAB) hP9 hD9 hS hA hAB hl.1 dX0_nanoOfDay_10 ⟨Nat.le_of_ble_eq_true rfl, Nat.le_of_ble_eq_true rfl⟩ rfl (Nat.le_of_ble_eq_true rfl) ⟨Nat.le_of_ble_eq_true rfl, Nat.le_of_ble_eq_true rfl⟩ (fun r9 wd9 H locs hp9 hP hD hS => ?_)
  obtain ⟨q9_10, rfl, u9_10, k9_10, d9_10, f9_10, rfl, hs9_10, hx9_10⟩ := hp9
  have hP : va_P (gD G) vwCl ((wX G a S) ++ [(q9_10, .inr (0, [.ref u9_10, .int 0, .int 0, .int 0])), (u9_10, .inl (gC G 2, (k9_10 + d9_10), .inl f9_10))]) H := hP
  have hD : va_D A ((wX G a S) ++ [(q9_10, .inr (0, [.ref u9_10, .int 0, .int 0, .int 0])), (u9_10, .inl (gC G 2, (k9_10 + d9_10), .inl f9_10))]) := hD
  refine W.eq (g2 := F0 m 13 ls [.ref q9_10]) rfl ?_
  exact weA hx hb hr (Or.inl ⟨_, rfl⟩) hk ⟨q9_10, [(q9_10, .inr (0, [.ref u9_10, .int 0, .int 0, .int 0])), (u9_10, .inl (gC G 2, (k9_10 + d9_10), .inl f9_10))], rfl, (congrArg (fun z9 => wX G a z9 ++ [(q9_10, .inr (0, [.ref u9_10, .int 0, .int 0, .int 0])), (u9_10, .inl (gC G 2, (k9_10 + d9_10), .inl f9_10))]) (show gX0_nanoOfDay S p0 = S from rfl).symm), TXO.dig (show oX0_nanoOfDay S p0 = (some (some ((xN S) p0.toNatClampNeg))) from rfl) ⟨_, _, _, _, rfl, hs9_10, hx9_10⟩⟩ hP hD hS (Nat.le_of_ble_eq_true rfl) (Nat.le_of_ble_eq_true rfl) dX0_nanoOfDay_13

set_option maxRecDepth 100000 in
set_option maxHeartbeats 4000000 in
theorem t_field (l : Launch) (G : GT) (a : Nat → Nat) (S : SX) (p0 : Int32) (p1 : Int32) (h0 : vp_in p0 6) (r1 : ¬ p1 < (0 : Int32)) (q1 : p1 ≤ (27 : Int32)) : WE l G yX0_field cX0_field 3 (some (.object "java/lang/String")) 9 30 800 [.ref (a 0), .int p0, .int p1] (wX G a S) (fun r wd => ∃ (q : Nat) (ws : va_W), r = some (.ref q) ∧ wd = wX G a (gX0_field S p0 p1) ++ ws ∧ TXO G q (oX0_field S p0 p1) ws) := by
  refine WE.ofW (own := RX0) rfl (plainFor_of_name pnN_RX0) (Nat.le_of_ble_eq_true rfl) ?_
  intro p e s m below meth c A C hr hk hnm hE hP hD hA hAB hS ls hl
  have hx := C.1
  have hb := C.2.1
  have hml := C.2.2.1
  have hown := C.2.2.2.1
  have hw := C.2.2.2.2
  have hl : lv_has ls 3 [(0, .ref (a 0)), (1, .int p0), (2, .int p1)] := hl
  refine lv_iload_n hx hb dX0_field_0 rfl (lv_at hl 1 rfl) ?_
  refine rcSv (as := [.int p0]) (rest := []) C (c_X0_checkMoment l G p0 h0) F_X0_checkMoment rfl bw387 bw388 (hE.S hS hAB) vpn hl.1 dX0_field_1 ⟨Nat.le_of_ble_eq_true rfl, Nat.le_of_ble_eq_true rfl⟩ rfl (Nat.le_of_ble_eq_true rfl) ⟨Nat.le_of_ble_eq_true rfl, Nat.le_of_ble_eq_true rfl⟩ ?_
  refine lv_iload_n hx hb dX0_field_4 rfl (lv_at hl 2 rfl) ?_
  refine lv_iconst (v := (0 : Int32)) hx hb dX0_field_5 qi_0 ?_
  refine lv_bipush (v := (27 : Int32)) hx hb dX0_field_6 qb_27 ?_
  refine rcSv (as := [.int p1, .int (0 : Int32), .int (27 : Int32)]) (rest := []) C (c_X0_checkRange l G p1 (0 : Int32) (27 : Int32) r1 q1) F_X0_checkRange rfl bw308 bw309 (hE.S hS hAB) vpn hl.1 dX0_field_8 ⟨Nat.le_of_ble_eq_true rfl, Nat.le_of_ble_eq_true rfl⟩ rfl (Nat.le_of_ble_eq_true rfl) ⟨Nat.le_of_ble_eq_true rfl, Nat.le_of_ble_eq_true rfl⟩ ?_
  refine lv_iload_n hx hb dX0_field_11 rfl (lv_at hl 2 rfl) ?_
  refine lv_bipush (v := (14 : Int32)) hx hb dX0_field_12 qb_14 ?_
  refine lv_icmp_gt (tgt := 31) hx hb dX0_field_14 (by decide) (fun c_1 => ?_) (fun c_1 => ?_)
  · refine lv_aload_n hx hb dX0_field_31 rfl (lv_at hl 0 rfl) ?_
    refine lv_iload_n hx hb dX0_field_32 rfl (lv_at hl 1 rfl) ?_
    refine lv_iload_n hx hb dX0_field_33 rfl (lv_at hl 2 rfl) ?_
    refine rcVl (as := [.int p0, .int p1]) (rest := []) (cl := RX0) C (c_X0_dateField l G a S p0 p1 h0) F_X0_dateField rfl bw1093 bw1095 bw28 (hE.S hS hAB) hP (rv2 hE.K hP (q0 := 0) rfl) hl.1 dX0_field_34 ⟨Nat.le_of_ble_eq_true rfl, Nat.le_of_ble_eq_true rfl⟩ rfl (Nat.le_of_ble_eq_true rfl) ⟨Nat.le_of_ble_eq_true rfl, Nat.le_of_ble_eq_true rfl⟩ ?_
    have hP9 := P_nil hP
    have hD9 := D_nil hD
    refine weS (wr := (wX G a S)) (wd := []) (as := [.long (fX0_dateField S p0 p1)]) (rest := []) C (s_digitsOf l G (fX0_dateField S p0 p1)) F_X0_digitsOf rfl bw774 bw775 (hE.S hS hAB) hP9 hD9 hS hA hAB hl.1 dX0_field_37 ⟨Nat.le_of_ble_eq_true rfl, Nat.le_of_ble_eq_true rfl⟩ rfl (Nat.le_of_ble_eq_true rfl) ⟨Nat.le_of_ble_eq_true rfl, Nat.le_of_ble_eq_true rfl⟩ (fun r9 wd9 H locs hp9 hP hD hS => ?_)
    obtain ⟨q9_37, rfl, u9_37, k9_37, d9_37, f9_37, rfl, hs9_37, hx9_37⟩ := hp9
    have hP : va_P (gD G) vwCl ((wX G a S) ++ [(q9_37, .inr (0, [.ref u9_37, .int 0, .int 0, .int 0])), (u9_37, .inl (gC G 2, (k9_37 + d9_37), .inl f9_37))]) H := hP
    have hD : va_D A ((wX G a S) ++ [(q9_37, .inr (0, [.ref u9_37, .int 0, .int 0, .int 0])), (u9_37, .inl (gC G 2, (k9_37 + d9_37), .inl f9_37))]) := hD
    refine W.eq (g2 := F0 m 40 ls [.ref q9_37]) rfl ?_
    exact weA hx hb hr (Or.inl ⟨_, rfl⟩) hk ⟨q9_37, [(q9_37, .inr (0, [.ref u9_37, .int 0, .int 0, .int 0])), (u9_37, .inl (gC G 2, (k9_37 + d9_37), .inl f9_37))], rfl, (congrArg (fun z9 => wX G a z9 ++ [(q9_37, .inr (0, [.ref u9_37, .int 0, .int 0, .int 0])), (u9_37, .inl (gC G 2, (k9_37 + d9_37), .inl f9_37))]) (show gX0_field S p0 p1 = S from (if_pos c_1)).symm), TXO.dig (show oX0_field S p0 p1 = (some (some (fX0_dateField S p0 p1))) from (if_pos c_1)) ⟨_, _, _, _, rfl, hs9_37, hx9_37⟩⟩ hP hD hS (Nat.le_of_ble_eq_true rfl) (Nat.le_of_ble_eq_true rfl) dX0_field_40
  · refine lv_aload_n hx hb dX0_field_17 rfl (lv_at hl 0 rfl) ?_
    refine va_get (D := gD G) (cl := vwCl) (tys := gT G) (ci := 2) (v := .ref (a 5)) (C := RX0) (T := TX0) (N := 12) hx hb hw inB_X0 hown hE.K hP 0 rfl rfl 4 (by decide) (hw _ bw98) (fun _ h9 => h9) rfl dX0_field_18 ?_
    refine lv_iload_n hx hb dX0_field_21 rfl (lv_at hl 1 rfl) ?_
    refine va_lald (tys := gT G) hx hb hE.K hP 5 1 rfl rfl h0 dX0_field_22 ?_
    refine lv_iload_n hx hb dX0_field_23 rfl (lv_at hl 2 rfl) ?_
    refine rcSl (as := [.long ((xN S) p0.toNatClampNeg), .int p1]) (rest := []) C (c_X0_timeField l G ((xN S) p0.toNatClampNeg) p1) F_X0_timeField rfl bw1088 bw1089 (hE.S hS hAB) vpn hl.1 dX0_field_24 ⟨Nat.le_of_ble_eq_true rfl, Nat.le_of_ble_eq_true rfl⟩ rfl (Nat.le_of_ble_eq_true rfl) ⟨Nat.le_of_ble_eq_true rfl, Nat.le_of_ble_eq_true rfl⟩ ?_
    have hP9 := P_nil hP
    have hD9 := D_nil hD
    refine weS (wr := (wX G a S)) (wd := []) (as := [.long (fX0_timeField ((xN S) p0.toNatClampNeg) p1)]) (rest := []) C (s_digitsOf l G (fX0_timeField ((xN S) p0.toNatClampNeg) p1)) F_X0_digitsOf rfl bw774 bw775 (hE.S hS hAB) hP9 hD9 hS hA hAB hl.1 dX0_field_27 ⟨Nat.le_of_ble_eq_true rfl, Nat.le_of_ble_eq_true rfl⟩ rfl (Nat.le_of_ble_eq_true rfl) ⟨Nat.le_of_ble_eq_true rfl, Nat.le_of_ble_eq_true rfl⟩ (fun r9 wd9 H locs hp9 hP hD hS => ?_)
    obtain ⟨q9_27, rfl, u9_27, k9_27, d9_27, f9_27, rfl, hs9_27, hx9_27⟩ := hp9
    have hP : va_P (gD G) vwCl ((wX G a S) ++ [(q9_27, .inr (0, [.ref u9_27, .int 0, .int 0, .int 0])), (u9_27, .inl (gC G 2, (k9_27 + d9_27), .inl f9_27))]) H := hP
    have hD : va_D A ((wX G a S) ++ [(q9_27, .inr (0, [.ref u9_27, .int 0, .int 0, .int 0])), (u9_27, .inl (gC G 2, (k9_27 + d9_27), .inl f9_27))]) := hD
    refine W.eq (g2 := F0 m 30 ls [.ref q9_27]) rfl ?_
    exact weA hx hb hr (Or.inl ⟨_, rfl⟩) hk ⟨q9_27, [(q9_27, .inr (0, [.ref u9_27, .int 0, .int 0, .int 0])), (u9_27, .inl (gC G 2, (k9_27 + d9_27), .inl f9_27))], rfl, (congrArg (fun z9 => wX G a z9 ++ [(q9_27, .inr (0, [.ref u9_27, .int 0, .int 0, .int 0])), (u9_27, .inl (gC G 2, (k9_27 + d9_27), .inl f9_27))]) (show gX0_field S p0 p1 = S from (if_neg c_1)).symm), TXO.dig (show oX0_field S p0 p1 = (some (some (fX0_timeField ((xN S) p0.toNatClampNeg) p1))) from (if_neg c_1)) ⟨_, _, _, _, rfl, hs9_27, hx9_27⟩⟩ hP hD hS (Nat.le_of_ble_eq_true rfl) (Nat.le_of_ble_eq_true rfl) dX0_field_30

set_option maxRecDepth 100000 in
set_option maxHeartbeats 4000000 in
theorem t_gapText (l : Launch) (G : GT) (a : Nat → Nat) (S : SX) (p0 : Int32) (p1 : Int32) (p2 : Int32) (h0 : vp_in p0 6) (h1 : vp_in p1 6) : WE l G yX0_gapText cX0_gapText 4 (some (.object "java/lang/String")) 9 30 800 [.ref (a 0), .int p0, .int p1, .int p2] (wX G a S) (fun r wd => ∃ (q : Nat) (ws : va_W), r = some (.ref q) ∧ wd = wX G a (gX0_gapText S p0 p1 p2) ++ ws ∧ TXO G q (oX0_gapText S p0 p1 p2) ws) := by
  refine WE.ofW (own := RX0) rfl (plainFor_of_name pnN_RX0) (Nat.le_of_ble_eq_true rfl) ?_
  intro p e s m below meth c A C hr hk hnm hE hP hD hA hAB hS ls hl
  have hx := C.1
  have hb := C.2.1
  have hml := C.2.2.1
  have hown := C.2.2.2.1
  have hw := C.2.2.2.2
  have hl : lv_has ls 4 [(0, .ref (a 0)), (1, .int p0), (2, .int p1), (3, .int p2)] := hl
  refine lv_aload_n hx hb dX0_gapText_0 rfl (lv_at hl 0 rfl) ?_
  refine lv_iload_n hx hb dX0_gapText_1 rfl (lv_at hl 1 rfl) ?_
  refine lv_iload_n hx hb dX0_gapText_2 rfl (lv_at hl 2 rfl) ?_
  refine lv_iload_n hx hb dX0_gapText_3 rfl (lv_at hl 3 rfl) ?_
  refine rcVi (as := [.int p0, .int p1, .int p2]) (rest := []) (cl := RX0) C (c_X0_isGapRefused l G a S p0 p1 p2 h0 h1) F_X0_isGapRefused rfl bw1129 bw1131 bw30 (hE.S hS hAB) hP (rv2 hE.K hP (q0 := 0) rfl) hl.1 dX0_gapText_4 ⟨Nat.le_of_ble_eq_true rfl, Nat.le_of_ble_eq_true rfl⟩ rfl (Nat.le_of_ble_eq_true rfl) ⟨Nat.le_of_ble_eq_true rfl, Nat.le_of_ble_eq_true rfl⟩ ?_
  refine lv_if_eq (tgt := 19) hx hb dX0_gapText_7 (by decide) (fun c_1 => ?_) (fun c_1 => ?_)
  · refine lv_iload_n hx hb dX0_gapText_19 rfl (lv_at hl 3 rfl) ?_
    refine lv_bipush (v := (9 : Int32)) hx hb dX0_gapText_20 qb_9 ?_
    refine lv_icmp_ge (tgt := 36) hx hb dX0_gapText_22 (by decide) (fun c_2 => ?_) (fun c_2 => ?_)
    · refine lv_aload_n hx hb dX0_gapText_36 rfl (lv_at hl 0 rfl) ?_
      refine lv_iload_n hx hb dX0_gapText_37 rfl (lv_at hl 1 rfl) ?_
      refine lv_iload_n hx hb dX0_gapText_38 rfl (lv_at hl 2 rfl) ?_
      refine rcVl (as := [.int p0, .int p1]) (rest := []) (cl := RX0) C (c_X0_gapInMonths l G a S p0 p1 h0 h1) F_X0_gapInMonths rfl bw1135 bw1137 bw31 (hE.S hS hAB) hP (rv2 hE.K hP (q0 := 0) rfl) hl.1 dX0_gapText_39 ⟨Nat.le_of_ble_eq_true rfl, Nat.le_of_ble_eq_true rfl⟩ rfl (Nat.le_of_ble_eq_true rfl) ⟨Nat.le_of_ble_eq_true rfl, Nat.le_of_ble_eq_true rfl⟩ ?_
      refine lv_iload_n hx hb dX0_gapText_42 rfl (lv_at hl 3 rfl) ?_
      refine rcSl (as := [.int p2]) (rest := [.long (fX0_gapInMonths S p0 p1)]) C (c_X0_monthsOfUnit l G p2) F_X0_monthsOfUnit rfl bw677 bw678 (hE.S hS hAB) vpn hl.1 dX0_gapText_43 ⟨Nat.le_of_ble_eq_true rfl, Nat.le_of_ble_eq_true rfl⟩ rfl (Nat.le_of_ble_eq_true rfl) ⟨Nat.le_of_ble_eq_true rfl, Nat.le_of_ble_eq_true rfl⟩ ?_
      refine rcSl (as := [.long (fX0_gapInMonths S p0 p1), .long (fX0_monthsOfUnit p2)]) (rest := []) C (c_X0_quotient l G (fX0_gapInMonths S p0 p1) (fX0_monthsOfUnit p2)) F_X0_quotient rfl bw229 bw230 (hE.S hS hAB) vpn hl.1 dX0_gapText_46 ⟨Nat.le_of_ble_eq_true rfl, Nat.le_of_ble_eq_true rfl⟩ rfl (Nat.le_of_ble_eq_true rfl) ⟨Nat.le_of_ble_eq_true rfl, Nat.le_of_ble_eq_true rfl⟩ ?_
      have hP9 := P_nil hP
      have hD9 := D_nil hD
      refine weS (wr := (wX G a S)) (wd := []) (as := [.long (fX0_quotient (fX0_gapInMonths S p0 p1) (fX0_monthsOfUnit p2))]) (rest := []) C (s_digitsOf l G (fX0_quotient (fX0_gapInMonths S p0 p1) (fX0_monthsOfUnit p2))) F_X0_digitsOf rfl bw774 bw775 (hE.S hS hAB) hP9 hD9 hS hA hAB hl.1 dX0_gapText_49 ⟨Nat.le_of_ble_eq_true rfl, Nat.le_of_ble_eq_true rfl⟩ rfl (Nat.le_of_ble_eq_true rfl) ⟨Nat.le_of_ble_eq_true rfl, Nat.le_of_ble_eq_true rfl⟩ (fun r9 wd9 H locs hp9 hP hD hS => ?_)
      obtain ⟨q9_49, rfl, u9_49, k9_49, d9_49, f9_49, rfl, hs9_49, hx9_49⟩ := hp9
      have hP : va_P (gD G) vwCl ((wX G a S) ++ [(q9_49, .inr (0, [.ref u9_49, .int 0, .int 0, .int 0])), (u9_49, .inl (gC G 2, (k9_49 + d9_49), .inl f9_49))]) H := hP
      have hD : va_D A ((wX G a S) ++ [(q9_49, .inr (0, [.ref u9_49, .int 0, .int 0, .int 0])), (u9_49, .inl (gC G 2, (k9_49 + d9_49), .inl f9_49))]) := hD
      refine W.eq (g2 := F0 m 52 ls [.ref q9_49]) rfl ?_
      exact weA hx hb hr (Or.inl ⟨_, rfl⟩) hk ⟨q9_49, [(q9_49, .inr (0, [.ref u9_49, .int 0, .int 0, .int 0])), (u9_49, .inl (gC G 2, (k9_49 + d9_49), .inl f9_49))], rfl, (congrArg (fun z9 => wX G a z9 ++ [(q9_49, .inr (0, [.ref u9_49, .int 0, .int 0, .int 0])), (u9_49, .inl (gC G 2, (k9_49 + d9_49), .inl f9_49))]) (show gX0_gapText S p0 p1 p2 = S from (Eq.trans (if_pos c_1) (if_pos c_2))).symm), TXO.dig (show oX0_gapText S p0 p1 p2 = (some (some (fX0_quotient (fX0_gapInMonths S p0 p1) (fX0_monthsOfUnit p2)))) from (Eq.trans (if_pos c_1) (if_pos c_2))) ⟨_, _, _, _, rfl, hs9_49, hx9_49⟩⟩ hP hD hS (Nat.le_of_ble_eq_true rfl) (Nat.le_of_ble_eq_true rfl) dX0_gapText_52
    · refine lv_aload_n hx hb dX0_gapText_25 rfl (lv_at hl 0 rfl) ?_
      refine lv_iload_n hx hb dX0_gapText_26 rfl (lv_at hl 1 rfl) ?_
      refine lv_iload_n hx hb dX0_gapText_27 rfl (lv_at hl 2 rfl) ?_
      refine lv_iload_n hx hb dX0_gapText_28 rfl (lv_at hl 3 rfl) ?_
      refine rcVl (as := [.int p0, .int p1, .int p2]) (rest := []) (cl := RX0) C (c_X0_gapInUnits l G a S p0 p1 p2 h0 h1) F_X0_gapInUnits rfl bw244 bw246 bw11 (hE.S hS hAB) hP (rv2 hE.K hP (q0 := 0) rfl) hl.1 dX0_gapText_29 ⟨Nat.le_of_ble_eq_true rfl, Nat.le_of_ble_eq_true rfl⟩ rfl (Nat.le_of_ble_eq_true rfl) ⟨Nat.le_of_ble_eq_true rfl, Nat.le_of_ble_eq_true rfl⟩ ?_
      have hP9 := P_nil hP
      have hD9 := D_nil hD
      refine weS (wr := (wX G a S)) (wd := []) (as := [.long (fX0_gapInUnits S p0 p1 p2)]) (rest := []) C (s_digitsOf l G (fX0_gapInUnits S p0 p1 p2)) F_X0_digitsOf rfl bw774 bw775 (hE.S hS hAB) hP9 hD9 hS hA hAB hl.1 dX0_gapText_32 ⟨Nat.le_of_ble_eq_true rfl, Nat.le_of_ble_eq_true rfl⟩ rfl (Nat.le_of_ble_eq_true rfl) ⟨Nat.le_of_ble_eq_true rfl, Nat.le_of_ble_eq_true rfl⟩ (fun r9 wd9 H locs hp9 hP hD hS => ?_)
      obtain ⟨q9_32, rfl, u9_32, k9_32, d9_32, f9_32, rfl, hs9_32, hx9_32⟩ := hp9
      have hP : va_P (gD G) vwCl ((wX G a S) ++ [(q9_32, .inr (0, [.ref u9_32, .int 0, .int 0, .int 0])), (u9_32, .inl (gC G 2, (k9_32 + d9_32), .inl f9_32))]) H := hP
      have hD : va_D A ((wX G a S) ++ [(q9_32, .inr (0, [.ref u9_32, .int 0, .int 0, .int 0])), (u9_32, .inl (gC G 2, (k9_32 + d9_32), .inl f9_32))]) := hD
      refine W.eq (g2 := F0 m 35 ls [.ref q9_32]) rfl ?_
      exact weA hx hb hr (Or.inl ⟨_, rfl⟩) hk ⟨q9_32, [(q9_32, .inr (0, [.ref u9_32, .int 0, .int 0, .int 0])), (u9_32, .inl (gC G 2, (k9_32 + d9_32), .inl f9_32))], rfl, (congrArg (fun z9 => wX G a z9 ++ [(q9_32, .inr (0, [.ref u9_32, .int 0, .int 0, .int 0])), (u9_32, .inl (gC G 2, (k9_32 + d9_32), .inl f9_32))]) (show gX0_gapText S p0 p1 p2 = S from (Eq.trans (if_pos c_1) (if_neg c_2))).symm), TXO.dig (show oX0_gapText S p0 p1 p2 = (some (some (fX0_gapInUnits S p0 p1 p2))) from (Eq.trans (if_pos c_1) (if_neg c_2))) ⟨_, _, _, _, rfl, hs9_32, hx9_32⟩⟩ hP hD hS (Nat.le_of_ble_eq_true rfl) (Nat.le_of_ble_eq_true rfl) dX0_gapText_35
  · refine lv_aload_n hx hb dX0_gapText_10 rfl (lv_at hl 0 rfl) ?_
    refine wcVi (as := []) (rest := []) (cl := RX0) C (c_X0_refuse l G a S) F_X0_refuse rfl bw414 bw416 bw20 (hE.S hS hAB) hP hD hS hA hAB (rv2 hE.K hP (q0 := 0) rfl) hl.1 dX0_gapText_11 ⟨Nat.le_of_ble_eq_true rfl, Nat.le_of_ble_eq_true rfl⟩ rfl (Nat.le_of_ble_eq_true rfl) ⟨Nat.le_of_ble_eq_true rfl, Nat.le_of_ble_eq_true rfl⟩ (fun H locs hP hD hS => ?_)
    refine lv_pop hx hb dX0_gapText_14 rfl ?_
    refine k_ldcwS hx hb hown hE.1.2.2.2.1 dX0_gapText_15 ?_
    exact weA hx hb hr (Or.inl ⟨_, rfl⟩) hk ⟨_, [], rfl, (congrArg (fun z9 => wX G a z9 ++ []) (show gX0_gapText S p0 p1 p2 = (gX0_refuse S).2 from (if_neg c_1)).symm), TXO.bang (show oX0_gapText S p0 p1 p2 = (some none) from (if_neg c_1))⟩ (P_nil hP) (D_nil hD) hS (Nat.le_of_ble_eq_true rfl) (Nat.le_of_ble_eq_true rfl) dX0_gapText_18

set_option maxRecDepth 100000 in
set_option maxHeartbeats 4000000 in
theorem t_between (l : Launch) (G : GT) (a : Nat → Nat) (S : SX) (p0 : Int32) (p1 : Int32) (p2 : Int32) (h0 : vp_in p0 6) (h1 : vp_in p1 6) (r2 : ¬ p2 < (0 : Int32)) (q2 : p2 ≤ (13 : Int32)) : WE l G yX0_between cX0_between 4 (some (.object "java/lang/String")) 10 30 800 [.ref (a 0), .int p0, .int p1, .int p2] (wX G a S) (fun r wd => ∃ (q : Nat) (ws : va_W), r = some (.ref q) ∧ wd = wX G a (gX0_between S p0 p1 p2) ++ ws ∧ TXO G q (oX0_between S p0 p1 p2) ws) := by
  refine WE.ofW (own := RX0) rfl (plainFor_of_name pnN_RX0) (Nat.le_of_ble_eq_true rfl) ?_
  intro p e s m below meth c A C hr hk hnm hE hP hD hA hAB hS ls hl
  have hx := C.1
  have hb := C.2.1
  have hml := C.2.2.1
  have hown := C.2.2.2.1
  have hw := C.2.2.2.2
  have hl : lv_has ls 4 [(0, .ref (a 0)), (1, .int p0), (2, .int p1), (3, .int p2)] := hl
  refine lv_iload_n hx hb dX0_between_0 rfl (lv_at hl 1 rfl) ?_
  refine rcSv (as := [.int p0]) (rest := []) C (c_X0_checkMoment l G p0 h0) F_X0_checkMoment rfl bw387 bw388 (hE.S hS hAB) vpn hl.1 dX0_between_1 ⟨Nat.le_of_ble_eq_true rfl, Nat.le_of_ble_eq_true rfl⟩ rfl (Nat.le_of_ble_eq_true rfl) ⟨Nat.le_of_ble_eq_true rfl, Nat.le_of_ble_eq_true rfl⟩ ?_
  refine lv_iload_n hx hb dX0_between_4 rfl (lv_at hl 2 rfl) ?_
  refine rcSv (as := [.int p1]) (rest := []) C (c_X0_checkMoment l G p1 h1) F_X0_checkMoment rfl bw387 bw388 (hE.S hS hAB) vpn hl.1 dX0_between_5 ⟨Nat.le_of_ble_eq_true rfl, Nat.le_of_ble_eq_true rfl⟩ rfl (Nat.le_of_ble_eq_true rfl) ⟨Nat.le_of_ble_eq_true rfl, Nat.le_of_ble_eq_true rfl⟩ ?_
  refine lv_iload_n hx hb dX0_between_8 rfl (lv_at hl 3 rfl) ?_
  refine lv_iconst (v := (0 : Int32)) hx hb dX0_between_9 qi_0 ?_
  refine lv_bipush (v := (13 : Int32)) hx hb dX0_between_10 qb_13 ?_
  refine rcSv (as := [.int p2, .int (0 : Int32), .int (13 : Int32)]) (rest := []) C (c_X0_checkRange l G p2 (0 : Int32) (13 : Int32) r2 q2) F_X0_checkRange rfl bw308 bw309 (hE.S hS hAB) vpn hl.1 dX0_between_12 ⟨Nat.le_of_ble_eq_true rfl, Nat.le_of_ble_eq_true rfl⟩ rfl (Nat.le_of_ble_eq_true rfl) ⟨Nat.le_of_ble_eq_true rfl, Nat.le_of_ble_eq_true rfl⟩ ?_
  refine lv_aload_n hx hb dX0_between_15 rfl (lv_at hl 0 rfl) ?_
  refine lv_iload_n hx hb dX0_between_16 rfl (lv_at hl 1 rfl) ?_
  refine lv_iload_n hx hb dX0_between_17 rfl (lv_at hl 2 rfl) ?_
  refine lv_iload_n hx hb dX0_between_18 rfl (lv_at hl 3 rfl) ?_
  refine weVf (wr := []) (wd := (wX G a S)) (as := [.int p0, .int p1, .int p2]) (rest := []) (cl := RX0) C (t_gapText l G a S p0 p1 p2 h0 h1) F_X0_gapText rfl bw1125 bw1127 (hw _ bw29) (hE.S hS hAB) hP hD hS hA hAB (rv2 hE.K hP (q0 := 0) rfl) hl.1 dX0_between_19 ⟨Nat.le_of_ble_eq_true rfl, Nat.le_of_ble_eq_true rfl⟩ rfl (Nat.le_of_ble_eq_true rfl) ⟨Nat.le_of_ble_eq_true rfl, Nat.le_of_ble_eq_true rfl⟩ (fun r9 wd9 H locs hp9 hP hD hS => ?_)
  obtain ⟨q9_19, ws9_19, rfl, rfl, ht9_19⟩ := hp9
  have hP : va_P (gD G) vwCl ((wX G a (gX0_gapText S p0 p1 p2)) ++ ws9_19) H := hP
  have hD : va_D A ((wX G a (gX0_gapText S p0 p1 p2)) ++ ws9_19) := hD
  refine W.eq (g2 := F0 m 22 ls [.ref q9_19]) rfl ?_
  exact weA hx hb hr (Or.inl ⟨_, rfl⟩) hk ⟨q9_19, ws9_19, rfl, (congrArg (fun z9 => wX G a z9 ++ ws9_19) (show gX0_between S p0 p1 p2 = (gX0_gapText S p0 p1 p2) from rfl).symm), ht9_19.cg (show oX0_between S p0 p1 p2 = (oX0_gapText S p0 p1 p2) from rfl)⟩ hP hD hS (Nat.le_of_ble_eq_true rfl) (Nat.le_of_ble_eq_true rfl) dX0_between_22

set_option maxRecDepth 100000 in
set_option maxHeartbeats 4000000 in
theorem t_until (l : Launch) (G : GT) (a : Nat → Nat) (S : SX) (p0 : Int32) (p1 : Int32) (p2 : Int32) (h0 : vp_in p0 6) (h1 : vp_in p1 6) (r2 : ¬ p2 < (0 : Int32)) (q2 : p2 ≤ (13 : Int32)) : WE l G yX0_until cX0_until 4 (some (.object "java/lang/String")) 10 30 800 [.ref (a 0), .int p0, .int p1, .int p2] (wX G a S) (fun r wd => ∃ (q : Nat) (ws : va_W), r = some (.ref q) ∧ wd = wX G a (gX0_until S p0 p1 p2) ++ ws ∧ TXO G q (oX0_until S p0 p1 p2) ws) := by
  refine WE.ofW (own := RX0) rfl (plainFor_of_name pnN_RX0) (Nat.le_of_ble_eq_true rfl) ?_
  intro p e s m below meth c A C hr hk hnm hE hP hD hA hAB hS ls hl
  have hx := C.1
  have hb := C.2.1
  have hml := C.2.2.1
  have hown := C.2.2.2.1
  have hw := C.2.2.2.2
  have hl : lv_has ls 4 [(0, .ref (a 0)), (1, .int p0), (2, .int p1), (3, .int p2)] := hl
  refine lv_iload_n hx hb dX0_until_0 rfl (lv_at hl 1 rfl) ?_
  refine rcSv (as := [.int p0]) (rest := []) C (c_X0_checkMoment l G p0 h0) F_X0_checkMoment rfl bw387 bw388 (hE.S hS hAB) vpn hl.1 dX0_until_1 ⟨Nat.le_of_ble_eq_true rfl, Nat.le_of_ble_eq_true rfl⟩ rfl (Nat.le_of_ble_eq_true rfl) ⟨Nat.le_of_ble_eq_true rfl, Nat.le_of_ble_eq_true rfl⟩ ?_
  refine lv_iload_n hx hb dX0_until_4 rfl (lv_at hl 2 rfl) ?_
  refine rcSv (as := [.int p1]) (rest := []) C (c_X0_checkMoment l G p1 h1) F_X0_checkMoment rfl bw387 bw388 (hE.S hS hAB) vpn hl.1 dX0_until_5 ⟨Nat.le_of_ble_eq_true rfl, Nat.le_of_ble_eq_true rfl⟩ rfl (Nat.le_of_ble_eq_true rfl) ⟨Nat.le_of_ble_eq_true rfl, Nat.le_of_ble_eq_true rfl⟩ ?_
  refine lv_iload_n hx hb dX0_until_8 rfl (lv_at hl 3 rfl) ?_
  refine lv_iconst (v := (0 : Int32)) hx hb dX0_until_9 qi_0 ?_
  refine lv_bipush (v := (13 : Int32)) hx hb dX0_until_10 qb_13 ?_
  refine rcSv (as := [.int p2, .int (0 : Int32), .int (13 : Int32)]) (rest := []) C (c_X0_checkRange l G p2 (0 : Int32) (13 : Int32) r2 q2) F_X0_checkRange rfl bw308 bw309 (hE.S hS hAB) vpn hl.1 dX0_until_12 ⟨Nat.le_of_ble_eq_true rfl, Nat.le_of_ble_eq_true rfl⟩ rfl (Nat.le_of_ble_eq_true rfl) ⟨Nat.le_of_ble_eq_true rfl, Nat.le_of_ble_eq_true rfl⟩ ?_
  refine lv_aload_n hx hb dX0_until_15 rfl (lv_at hl 0 rfl) ?_
  refine lv_iload_n hx hb dX0_until_16 rfl (lv_at hl 1 rfl) ?_
  refine lv_iload_n hx hb dX0_until_17 rfl (lv_at hl 2 rfl) ?_
  refine lv_iload_n hx hb dX0_until_18 rfl (lv_at hl 3 rfl) ?_
  refine weVf (wr := []) (wd := (wX G a S)) (as := [.int p0, .int p1, .int p2]) (rest := []) (cl := RX0) C (t_gapText l G a S p0 p1 p2 h0 h1) F_X0_gapText rfl bw1125 bw1127 (hw _ bw29) (hE.S hS hAB) hP hD hS hA hAB (rv2 hE.K hP (q0 := 0) rfl) hl.1 dX0_until_19 ⟨Nat.le_of_ble_eq_true rfl, Nat.le_of_ble_eq_true rfl⟩ rfl (Nat.le_of_ble_eq_true rfl) ⟨Nat.le_of_ble_eq_true rfl, Nat.le_of_ble_eq_true rfl⟩ (fun r9 wd9 H locs hp9 hP hD hS => ?_)
  obtain ⟨q9_19, ws9_19, rfl, rfl, ht9_19⟩ := hp9
  have hP : va_P (gD G) vwCl ((wX G a (gX0_gapText S p0 p1 p2)) ++ ws9_19) H := hP
  have hD : va_D A ((wX G a (gX0_gapText S p0 p1 p2)) ++ ws9_19) := hD
  refine W.eq (g2 := F0 m 22 ls [.ref q9_19]) rfl ?_
  exact weA hx hb hr (Or.inl ⟨_, rfl⟩) hk ⟨q9_19, ws9_19, rfl, (congrArg (fun z9 => wX G a z9 ++ ws9_19) (show gX0_until S p0 p1 p2 = (gX0_gapText S p0 p1 p2) from rfl).symm), ht9_19.cg (show oX0_until S p0 p1 p2 = (oX0_gapText S p0 p1 p2) from rfl)⟩ hP hD hS (Nat.le_of_ble_eq_true rfl) (Nat.le_of_ble_eq_true rfl) dX0_until_22

set_option maxRecDepth 100000 in
set_option maxHeartbeats 4000000 in
theorem u_nanoOfDay (l : Launch) (G : GT) (b : Nat → Nat) (T : SM) (p0 : Int32) (hT : MO T) : WE l G yX2_nanoOfDay cX2_nanoOfDay 2 (some (.object "java/lang/String")) 9 6 160 [.ref (b 0), .int p0] (wM G b T) (fun r wd => ∃ (q : Nat) (ws : va_W), r = some (.ref q) ∧ wd = wM G b (gX2_nanoOfDay T p0) ++ ws ∧ TXO G q (oX2_nanoOfDay T p0) ws) := by
  refine WE.ofW (own := RX2) rfl (plainFor_of_name pnN_RX2) (Nat.le_of_ble_eq_true rfl) ?_
  intro p e s m below meth c A C hr hk hnm hE hP hD hA hAB hS ls hl
  have hx := C.1
  have hb := C.2.1
  have hml := C.2.2.1
  have hown := C.2.2.2.1
  have hw := C.2.2.2.2
  have hl : lv_has ls 2 [(0, .ref (b 0)), (1, .int p0)] := hl
  refine lv_aload_n hx hb dX2_nanoOfDay_0 rfl (lv_at hl 0 rfl) ?_
  refine lv_iload_n hx hb dX2_nanoOfDay_1 rfl (lv_at hl 1 rfl) ?_
  refine rcSi (as := [.int p0]) (rest := [.ref (b 0)]) C (c_X2_isNone l G p0) F_X2_isNone rfl bw1216 bw1217 (hE.S hS hAB) vpn hl.1 dX2_nanoOfDay_2 ⟨Nat.le_of_ble_eq_true rfl, Nat.le_of_ble_eq_true rfl⟩ rfl (Nat.le_of_ble_eq_true rfl) ⟨Nat.le_of_ble_eq_true rfl, Nat.le_of_ble_eq_true rfl⟩ ?_
  refine lv_iconst (v := (0 : Int32)) hx hb dX2_nanoOfDay_5 qi_0 ?_
  refine wcVi (as := [.int (fX2_isNone p0), .int (0 : Int32)]) (rest := []) (cl := RX2) C (c_X2_refuses l G b T (fX2_isNone p0) (0 : Int32)) F_X2_refuses rfl bw1219 bw1221 bw33 (hE.S hS hAB) hP hD hS hA hAB (rv4 hE.K hP (q0 := 0) rfl) hl.1 dX2_nanoOfDay_6 ⟨Nat.le_of_ble_eq_true rfl, Nat.le_of_ble_eq_true rfl⟩ rfl (Nat.le_of_ble_eq_true rfl) ⟨Nat.le_of_ble_eq_true rfl, Nat.le_of_ble_eq_true rfl⟩ (fun H locs hP hD hS => ?_)
  have hP : va_P (gD G) vwCl (wM G b ((fth (fX2_isNone p0) (0 : Int32)), (my T), (mm T), (md T), (mt T), (T.2.2.2.2.2))) H := hP
  have hD : va_D A (wM G b ((fth (fX2_isNone p0) (0 : Int32)), (my T), (mm T), (md T), (mt T), (T.2.2.2.2.2))) := hD
  refine lv_if_eq (tgt := 17) hx hb dX2_nanoOfDay_9 (by decide) (fun c_1 => ?_) (fun c_1 => ?_)
  · have c_1 := rf_p c_1
    refine va_new (cl := vwCl) (tys := gT G) (ci := 1) (fs := [.null, .int 0, .int 0, .int 0]) (C := RJ4) (T := TJ4) (N := 4) hx hb hw inB_J4 tyJ4 tyJ4_ok hown (hw _ bw1510) (hw _ bw778) (hw _ bw67) hE.K hP hD hS hA rfl (fun j hj => by rcases (show j = 0 ∨ j = 1 ∨ j = 2 ∨ j = 3 by omega) with rfl | rfl | rfl | rfl <;> rfl) (Nat.le_of_ble_eq_true rfl) (Nat.le_of_ble_eq_true rfl) dX2_nanoOfDay_17 (fun q17 H hP hD hS => ?_)
    have hP : va_P (gD G) vwCl ((wM G b ((fth (fX2_isNone p0) (0 : Int32)), (my T), (mm T), (md T), (mt T), (T.2.2.2.2.2))) ++ [(q17, .inr (1, [.null, .int 0, .int 0, .int 0]))]) H := hP
    have hD : va_D A ((wM G b ((fth (fX2_isNone p0) (0 : Int32)), (my T), (mm T), (md T), (mt T), (T.2.2.2.2.2))) ++ [(q17, .inr (1, [.null, .int 0, .int 0, .int 0]))]) := hD
    refine lv_dup hx hb dX2_nanoOfDay_20 rfl ?_
    have hP9 : va_P (gD G) vwCl ((wM G b ((fth (fX2_isNone p0) (0 : Int32)), (my T), (mm T), (md T), (mt T), (T.2.2.2.2.2))) ++ [(q17, .inr (1, [.null, .int 0, .int 0, .int 0]))]) _ := hP
    have hD9 : va_D A ((wM G b ((fth (fX2_isNone p0) (0 : Int32)), (my T), (mm T), (md T), (mt T), (T.2.2.2.2.2))) ++ [(q17, .inr (1, [.null, .int 0, .int 0, .int 0]))]) := hD
    refine weI (wr := (wM G b ((fth (fX2_isNone p0) (0 : Int32)), (my T), (mm T), (md T), (mt T), (T.2.2.2.2.2)))) (wd := [(q17, .inr (1, [.null, .int 0, .int 0, .int 0]))]) (as := []) (rest := [.ref q17]) C (i_J4_init_da8c8 l G q17) F_J4_init_da8c8 rfl bw1511 bw780 rfl (hE.S hS hAB) hP9 hD9 hS hA hAB hl.1 dX2_nanoOfDay_21 ⟨Nat.le_of_ble_eq_true rfl, Nat.le_of_ble_eq_true rfl⟩ rfl (Nat.le_of_ble_eq_true rfl) ⟨Nat.le_of_ble_eq_true rfl, Nat.le_of_ble_eq_true rfl⟩ (fun r9 wd9 H locs hp9 hP hD hS => ?_)
    obtain ⟨rfl, v9_21, rfl⟩ := hp9
    have hP : va_P (gD G) vwCl ((wM G b ((fth (fX2_isNone p0) (0 : Int32)), (my T), (mm T), (md T), (mt T), (T.2.2.2.2.2))) ++ [(q17, .inr (1, [.ref v9_21, .int 0, .int 0, .int (nI 0)])), (v9_21, .inl (gC G 2, 16, .inl (fun _ => 0)))]) H := hP
    have hD : va_D A ((wM G b ((fth (fX2_isNone p0) (0 : Int32)), (my T), (mm T), (md T), (mt T), (T.2.2.2.2.2))) ++ [(q17, .inr (1, [.ref v9_21, .int 0, .int 0, .int (nI 0)])), (v9_21, .inl (gC G 2, 16, .inl (fun _ => 0)))]) := hD
    refine W.eq (g2 := F0 m 24 ls [.ref q17]) rfl ?_
    refine va_ldcS hx hb hown hE.1.2.2.2.2.1 dX2_nanoOfDay_24 ?_
    have hP9 : va_P (gD G) vwCl ((wM G b ((fth (fX2_isNone p0) (0 : Int32)), (my T), (mm T), (md T), (mt T), (T.2.2.2.2.2))) ++ [(q17, .inr (1, [.ref v9_21, .int 0, .int 0, .int (nI 0)])), (v9_21, .inl (gC G 2, 16, .inl (fun _ => 0)))]) _ := hP
    have hD9 : va_D A ((wM G b ((fth (fX2_isNone p0) (0 : Int32)), (my T), (mm T), (md T), (mt T), (T.2.2.2.2.2))) ++ [(q17, .inr (1, [.ref v9_21, .int 0, .int 0, .int (nI 0)])), (v9_21, .inl (gC G 2, 16, .inl (fun _ => 0)))]) := hD
    refine weVf (wr := (wM G b ((fth (fX2_isNone p0) (0 : Int32)), (my T), (mm T), (md T), (mt T), (T.2.2.2.2.2)))) (wd := [(q17, .inr (1, [.ref v9_21, .int 0, .int 0, .int (nI 0)])), (v9_21, .inl (gC G 2, 16, .inl (fun _ => 0)))]) (as := [.ref (ga G 6)]) (rest := []) (cl := RJ4) C (s_appS l G q17 v9_21 16 (fun _ => 0) (Or.inl rfl) sb_fit0) F_J4_append_15ec4 rfl bw1512 bw1014 (hw _ bw1015) (hE.S hS hAB) hP9 hD9 hS hA hAB (rv1 hE.K hP (q0 := 5) rfl) hl.1 dX2_nanoOfDay_26 ⟨Nat.le_of_ble_eq_true rfl, Nat.le_of_ble_eq_true rfl⟩ rfl (Nat.le_of_ble_eq_true rfl) ⟨Nat.le_of_ble_eq_true rfl, Nat.le_of_ble_eq_true rfl⟩ (fun r9 wd9 H locs hp9 hP hD hS => ?_)
    obtain ⟨rfl, v9_26, m9_26, f9_26, rfl, hm9_26, hle9_26, hf9_26⟩ := hp9
    have hP : va_P (gD G) vwCl ((wM G b ((fth (fX2_isNone p0) (0 : Int32)), (my T), (mm T), (md T), (mt T), (T.2.2.2.2.2))) ++ [(q17, .inr (1, [.ref v9_26, .int 0, .int 0, .int (nI 0)])), (v9_26, .inl (gC G 2, m9_26, .inl f9_26))]) H := hP
    have hD : va_D A ((wM G b ((fth (fX2_isNone p0) (0 : Int32)), (my T), (mm T), (md T), (mt T), (T.2.2.2.2.2))) ++ [(q17, .inr (1, [.ref v9_26, .int 0, .int 0, .int (nI 0)])), (v9_26, .inl (gC G 2, m9_26, .inl f9_26))]) := hD
    refine W.eq (g2 := F0 m 29 ls [.ref q17]) rfl ?_
    refine lv_aload_n hx hb dX2_nanoOfDay_29 rfl (lv_at hl 0 rfl) ?_
    refine va_get (D := gD G) (cl := vwCl) (tys := gT G) (ci := 4) (v := .ref (b 4)) (C := RX2) (T := TX2) (N := 12) hx hb hw inB_X2 hown hE.K hP 0 rfl rfl 4 (by decide) (hw _ bw1167) (fun _ h9 => h9) rfl dX2_nanoOfDay_30 ?_
    refine lv_iload_n hx hb dX2_nanoOfDay_33 rfl (lv_at hl 1 rfl) ?_
    refine va_lald (tys := gT G) hx hb hE.K hP 4 1 rfl rfl (none_in (frf_a c_1)) dX2_nanoOfDay_34 ?_
    obtain ⟨k9_35, d9_35, hs9_35⟩ := SS_of ((mt T) p0.toNatClampNeg)
    have hP9 : va_P (gD G) vwCl ((wM G b ((fth (fX2_isNone p0) (0 : Int32)), (my T), (mm T), (md T), (mt T), (T.2.2.2.2.2))) ++ [(q17, .inr (1, [.ref v9_26, .int 0, .int 0, .int (nI 0)])), (v9_26, .inl (gC G 2, m9_26, .inl f9_26))]) _ := hP
    have hD9 : va_D A ((wM G b ((fth (fX2_isNone p0) (0 : Int32)), (my T), (mm T), (md T), (mt T), (T.2.2.2.2.2))) ++ [(q17, .inr (1, [.ref v9_26, .int 0, .int 0, .int (nI 0)])), (v9_26, .inl (gC G 2, m9_26, .inl f9_26))]) := hD
    refine weVf (wr := (wM G b ((fth (fX2_isNone p0) (0 : Int32)), (my T), (mm T), (md T), (mt T), (T.2.2.2.2.2)))) (wd := [(q17, .inr (1, [.ref v9_26, .int 0, .int 0, .int (nI 0)])), (v9_26, .inl (gC G 2, m9_26, .inl f9_26))]) (as := [.long ((mt T) p0.toNatClampNeg)]) (rest := []) (cl := RJ4) C (s_appL l G q17 v9_26 m9_26 k9_35 d9_35 f9_26 ((mt T) p0.toNatClampNeg) hm9_26 hf9_26.1 hs9_35) F_J4_append_f7089 rfl bw1513 bw1514 (hw _ bw1515) (hE.S hS hAB) hP9 hD9 hS hA hAB (rv1 hE.K hP (q0 := 5) rfl) hl.1 dX2_nanoOfDay_35 ⟨Nat.le_of_ble_eq_true rfl, Nat.le_of_ble_eq_true rfl⟩ rfl (Nat.le_of_ble_eq_true rfl) ⟨Nat.le_of_ble_eq_true rfl, Nat.le_of_ble_eq_true rfl⟩ (fun r9 wd9 H locs hp9 hP hD hS => ?_)
    obtain ⟨rfl, v9_35, m9_35, f9_35, rfl, hm9_35, hle9_35, hf9_35⟩ := hp9
    have hP : va_P (gD G) vwCl ((wM G b ((fth (fX2_isNone p0) (0 : Int32)), (my T), (mm T), (md T), (mt T), (T.2.2.2.2.2))) ++ [(q17, .inr (1, [.ref v9_35, .int 0, .int 0, .int (nI (k9_35 + d9_35))])), (v9_35, .inl (gC G 2, m9_35, .inl f9_35))]) H := hP
    have hD : va_D A ((wM G b ((fth (fX2_isNone p0) (0 : Int32)), (my T), (mm T), (md T), (mt T), (T.2.2.2.2.2))) ++ [(q17, .inr (1, [.ref v9_35, .int 0, .int 0, .int (nI (k9_35 + d9_35))])), (v9_35, .inl (gC G 2, m9_35, .inl f9_35))]) := hD
    refine W.eq (g2 := F0 m 38 ls [.ref q17]) rfl ?_
    have hP9 : va_P (gD G) vwCl ((wM G b ((fth (fX2_isNone p0) (0 : Int32)), (my T), (mm T), (md T), (mt T), (T.2.2.2.2.2))) ++ [(q17, .inr (1, [.ref v9_35, .int 0, .int 0, .int (nI (k9_35 + d9_35))])), (v9_35, .inl (gC G 2, m9_35, .inl f9_35))]) _ := hP
    have hD9 : va_D A ((wM G b ((fth (fX2_isNone p0) (0 : Int32)), (my T), (mm T), (md T), (mt T), (T.2.2.2.2.2))) ++ [(q17, .inr (1, [.ref v9_35, .int 0, .int 0, .int (nI (k9_35 + d9_35))])), (v9_35, .inl (gC G 2, m9_35, .inl f9_35))]) := hD
    refine weVf (wr := (wM G b ((fth (fX2_isNone p0) (0 : Int32)), (my T), (mm T), (md T), (mt T), (T.2.2.2.2.2)))) (wd := [(q17, .inr (1, [.ref v9_35, .int 0, .int 0, .int (nI (k9_35 + d9_35))])), (v9_35, .inl (gC G 2, m9_35, .inl f9_35))]) (as := []) (rest := []) (cl := RJ4) C (s_toString l G q17 v9_35 m9_35 (k9_35 + d9_35) (tT ((mt T) p0.toNatClampNeg).toInt.natAbs k9_35 d9_35) f9_35 (mOK.lt hm9_35) hle9_35 hf9_35) F_J4_toString_0e30d rfl bw1540 bw943 (hw _ bw944) (hE.S hS hAB) hP9 hD9 hS hA hAB (rv1 hE.K hP (q0 := 5) rfl) hl.1 dX2_nanoOfDay_38 ⟨Nat.le_of_ble_eq_true rfl, Nat.le_of_ble_eq_true rfl⟩ rfl (Nat.le_of_ble_eq_true rfl) ⟨Nat.le_of_ble_eq_true rfl, Nat.le_of_ble_eq_true rfl⟩ (fun r9 wd9 H locs hp9 hP hD hS => ?_)
    obtain ⟨q9_38, u9_38, f9_38, rfl, rfl, hx9_38⟩ := hp9
    have hP : va_P (gD G) vwCl ((wM G b ((fth (fX2_isNone p0) (0 : Int32)), (my T), (mm T), (md T), (mt T), (T.2.2.2.2.2))) ++ [(q9_38, .inr (0, [.ref u9_38, .int 0, .int 0, .int 0])), (u9_38, .inl (gC G 2, (k9_35 + d9_35), .inl f9_38))]) H := hP
    have hD : va_D A ((wM G b ((fth (fX2_isNone p0) (0 : Int32)), (my T), (mm T), (md T), (mt T), (T.2.2.2.2.2))) ++ [(q9_38, .inr (0, [.ref u9_38, .int 0, .int 0, .int 0])), (u9_38, .inl (gC G 2, (k9_35 + d9_35), .inl f9_38))]) := hD
    refine W.eq (g2 := F0 m 41 ls [.ref q9_38]) rfl ?_
    exact weA hx hb hr (Or.inl ⟨_, rfl⟩) hk ⟨q9_38, [(q9_38, .inr (0, [.ref u9_38, .int 0, .int 0, .int 0])), (u9_38, .inl (gC G 2, (k9_35 + d9_35), .inl f9_38))], rfl, (congrArg (fun z9 => wM G b z9 ++ [(q9_38, .inr (0, [.ref u9_38, .int 0, .int 0, .int 0])), (u9_38, .inl (gC G 2, (k9_35 + d9_35), .inl f9_38))]) (show gX2_nanoOfDay T p0 = ((fth (fX2_isNone p0) (0 : Int32)), (my T), (mm T), (md T), (mt T), (T.2.2.2.2.2)) from (if_pos c_1)).symm), TXO.dig (show oX2_nanoOfDay T p0 = (some (some ((mt T) p0.toNatClampNeg))) from (if_pos c_1)) ⟨_, _, _, _, rfl, hs9_35, hx9_38⟩⟩ hP hD hS (Nat.le_of_ble_eq_true rfl) (Nat.le_of_ble_eq_true rfl) dX2_nanoOfDay_41
  · have c_1 := rf_n c_1
    refine va_ldcS hx hb hown hE.1.2.2.2.2.1 dX2_nanoOfDay_12 ?_
    refine lv_goto (tgt := 41) hx hb dX2_nanoOfDay_14 (by decide) ?_
    exact weA hx hb hr (Or.inl ⟨_, rfl⟩) hk ⟨_, [], rfl, (congrArg (fun z9 => wM G b z9 ++ []) (show gX2_nanoOfDay T p0 = ((fth (fX2_isNone p0) (0 : Int32)), (my T), (mm T), (md T), (mt T), (T.2.2.2.2.2)) from (if_neg c_1)).symm), TXO.no (show oX2_nanoOfDay T p0 = none from (if_neg c_1))⟩ (P_nil hP) (D_nil hD) hS (Nat.le_of_ble_eq_true rfl) (Nat.le_of_ble_eq_true rfl) dX2_nanoOfDay_41

set_option maxRecDepth 100000 in
set_option maxHeartbeats 4000000 in
theorem u_field (l : Launch) (G : GT) (b : Nat → Nat) (T : SM) (p0 : Int32) (p1 : Int32) (hT : MO T) : WE l G yX2_field cX2_field 3 (some (.object "java/lang/String")) 9 6 160 [.ref (b 0), .int p0, .int p1] (wM G b T) (fun r wd => ∃ (q : Nat) (ws : va_W), r = some (.ref q) ∧ wd = wM G b (gX2_field T p0 p1) ++ ws ∧ TXO G q (oX2_field T p0 p1) ws) := by
  refine WE.ofW (own := RX2) rfl (plainFor_of_name pnN_RX2) (Nat.le_of_ble_eq_true rfl) ?_
  intro p e s m below meth c A C hr hk hnm hE hP hD hA hAB hS ls hl
  have hx := C.1
  have hb := C.2.1
  have hml := C.2.2.1
  have hown := C.2.2.2.1
  have hw := C.2.2.2.2
  have hl : lv_has ls 3 [(0, .ref (b 0)), (1, .int p0), (2, .int p1)] := hl
  refine lv_aload_n hx hb dX2_field_0 rfl (lv_at hl 0 rfl) ?_
  refine lv_iload_n hx hb dX2_field_1 rfl (lv_at hl 1 rfl) ?_
  refine rcSi (as := [.int p0]) (rest := [.ref (b 0)]) C (c_X2_isNone l G p0) F_X2_isNone rfl bw1216 bw1217 (hE.S hS hAB) vpn hl.1 dX2_field_2 ⟨Nat.le_of_ble_eq_true rfl, Nat.le_of_ble_eq_true rfl⟩ rfl (Nat.le_of_ble_eq_true rfl) ⟨Nat.le_of_ble_eq_true rfl, Nat.le_of_ble_eq_true rfl⟩ ?_
  refine lv_iconst (v := (0 : Int32)) hx hb dX2_field_5 qi_0 ?_
  refine lv_bipush (v := (27 : Int32)) hx hb dX2_field_6 qb_27 ?_
  refine lv_iload_n hx hb dX2_field_8 rfl (lv_at hl 2 rfl) ?_
  refine rcSi (as := [.int (0 : Int32), .int (27 : Int32), .int p1]) (rest := [.int (fX2_isNone p0), .ref (b 0)]) C (c_X2_isFrom l G (0 : Int32) (27 : Int32) p1) F_X2_isFrom rfl bw1208 bw1209 (hE.S hS hAB) vpn hl.1 dX2_field_9 ⟨Nat.le_of_ble_eq_true rfl, Nat.le_of_ble_eq_true rfl⟩ rfl (Nat.le_of_ble_eq_true rfl) ⟨Nat.le_of_ble_eq_true rfl, Nat.le_of_ble_eq_true rfl⟩ ?_
  refine k_dia (b := (fX2_isFrom (0 : Int32) (27 : Int32) p1) = 0) (x := (1 : Int32)) (y := (0 : Int32)) (Wg := fun z9 => W _ _ _ _ _ _ _ _ _ _ _ _ _ _ _ (F0 m 20 ls (.int z9 :: _))) ?_ (fun t9 f9 => lv_if_ne (tgt := 19) hx hb dX2_field_12 (by decide) (fun c_x => lv_iconst (v := (0 : Int32)) hx hb dX2_field_19 qi_0 (f9 c_x)) (fun c_x => lv_iconst (v := (1 : Int32)) hx hb dX2_field_15 qi_1 (lv_goto (tgt := 20) hx hb dX2_field_16 (by decide) (t9 c_x))))
  refine wcVi (as := [.int (fX2_isNone p0), .int (if (fX2_isFrom (0 : Int32) (27 : Int32) p1) = 0 then (1 : Int32) else (0 : Int32))]) (rest := []) (cl := RX2) C (c_X2_refuses l G b T (fX2_isNone p0) (if (fX2_isFrom (0 : Int32) (27 : Int32) p1) = 0 then (1 : Int32) else (0 : Int32))) F_X2_refuses rfl bw1219 bw1221 bw33 (hE.S hS hAB) hP hD hS hA hAB (rv4 hE.K hP (q0 := 0) rfl) hl.1 dX2_field_20 ⟨Nat.le_of_ble_eq_true rfl, Nat.le_of_ble_eq_true rfl⟩ rfl (Nat.le_of_ble_eq_true rfl) ⟨Nat.le_of_ble_eq_true rfl, Nat.le_of_ble_eq_true rfl⟩ (fun H locs hP hD hS => ?_)
  have hP : va_P (gD G) vwCl (wM G b ((fth (fX2_isNone p0) (if (fX2_isFrom (0 : Int32) (27 : Int32) p1) = 0 then (1 : Int32) else (0 : Int32))), (my T), (mm T), (md T), (mt T), (T.2.2.2.2.2))) H := hP
  have hD : va_D A (wM G b ((fth (fX2_isNone p0) (if (fX2_isFrom (0 : Int32) (27 : Int32) p1) = 0 then (1 : Int32) else (0 : Int32))), (my T), (mm T), (md T), (mt T), (T.2.2.2.2.2))) := hD
  refine lv_if_eq (tgt := 29) hx hb dX2_field_23 (by decide) (fun c_1 => ?_) (fun c_1 => ?_)
  · have c_1 := rf_p c_1
    refine va_new (cl := vwCl) (tys := gT G) (ci := 1) (fs := [.null, .int 0, .int 0, .int 0]) (C := RJ4) (T := TJ4) (N := 4) hx hb hw inB_J4 tyJ4 tyJ4_ok hown (hw _ bw1510) (hw _ bw778) (hw _ bw67) hE.K hP hD hS hA rfl (fun j hj => by rcases (show j = 0 ∨ j = 1 ∨ j = 2 ∨ j = 3 by omega) with rfl | rfl | rfl | rfl <;> rfl) (Nat.le_of_ble_eq_true rfl) (Nat.le_of_ble_eq_true rfl) dX2_field_29 (fun q29 H hP hD hS => ?_)
    have hP : va_P (gD G) vwCl ((wM G b ((fth (fX2_isNone p0) (if (fX2_isFrom (0 : Int32) (27 : Int32) p1) = 0 then (1 : Int32) else (0 : Int32))), (my T), (mm T), (md T), (mt T), (T.2.2.2.2.2))) ++ [(q29, .inr (1, [.null, .int 0, .int 0, .int 0]))]) H := hP
    have hD : va_D A ((wM G b ((fth (fX2_isNone p0) (if (fX2_isFrom (0 : Int32) (27 : Int32) p1) = 0 then (1 : Int32) else (0 : Int32))), (my T), (mm T), (md T), (mt T), (T.2.2.2.2.2))) ++ [(q29, .inr (1, [.null, .int 0, .int 0, .int 0]))]) := hD
    refine lv_dup hx hb dX2_field_32 rfl ?_
    have hP9 : va_P (gD G) vwCl ((wM G b ((fth (fX2_isNone p0) (if (fX2_isFrom (0 : Int32) (27 : Int32) p1) = 0 then (1 : Int32) else (0 : Int32))), (my T), (mm T), (md T), (mt T), (T.2.2.2.2.2))) ++ [(q29, .inr (1, [.null, .int 0, .int 0, .int 0]))]) _ := hP
    have hD9 : va_D A ((wM G b ((fth (fX2_isNone p0) (if (fX2_isFrom (0 : Int32) (27 : Int32) p1) = 0 then (1 : Int32) else (0 : Int32))), (my T), (mm T), (md T), (mt T), (T.2.2.2.2.2))) ++ [(q29, .inr (1, [.null, .int 0, .int 0, .int 0]))]) := hD
    refine weI (wr := (wM G b ((fth (fX2_isNone p0) (if (fX2_isFrom (0 : Int32) (27 : Int32) p1) = 0 then (1 : Int32) else (0 : Int32))), (my T), (mm T), (md T), (mt T), (T.2.2.2.2.2)))) (wd := [(q29, .inr (1, [.null, .int 0, .int 0, .int 0]))]) (as := []) (rest := [.ref q29]) C (i_J4_init_da8c8 l G q29) F_J4_init_da8c8 rfl bw1511 bw780 rfl (hE.S hS hAB) hP9 hD9 hS hA hAB hl.1 dX2_field_33 ⟨Nat.le_of_ble_eq_true rfl, Nat.le_of_ble_eq_true rfl⟩ rfl (Nat.le_of_ble_eq_true rfl) ⟨Nat.le_of_ble_eq_true rfl, Nat.le_of_ble_eq_true rfl⟩ (fun r9 wd9 H locs hp9 hP hD hS => ?_)
    obtain ⟨rfl, v9_33, rfl⟩ := hp9
    have hP : va_P (gD G) vwCl ((wM G b ((fth (fX2_isNone p0) (if (fX2_isFrom (0 : Int32) (27 : Int32) p1) = 0 then (1 : Int32) else (0 : Int32))), (my T), (mm T), (md T), (mt T), (T.2.2.2.2.2))) ++ [(q29, .inr (1, [.ref v9_33, .int 0, .int 0, .int (nI 0)])), (v9_33, .inl (gC G 2, 16, .inl (fun _ => 0)))]) H := hP
    have hD : va_D A ((wM G b ((fth (fX2_isNone p0) (if (fX2_isFrom (0 : Int32) (27 : Int32) p1) = 0 then (1 : Int32) else (0 : Int32))), (my T), (mm T), (md T), (mt T), (T.2.2.2.2.2))) ++ [(q29, .inr (1, [.ref v9_33, .int 0, .int 0, .int (nI 0)])), (v9_33, .inl (gC G 2, 16, .inl (fun _ => 0)))]) := hD
    refine W.eq (g2 := F0 m 36 ls [.ref q29]) rfl ?_
    refine va_ldcS hx hb hown hE.1.2.2.2.2.1 dX2_field_36 ?_
    have hP9 : va_P (gD G) vwCl ((wM G b ((fth (fX2_isNone p0) (if (fX2_isFrom (0 : Int32) (27 : Int32) p1) = 0 then (1 : Int32) else (0 : Int32))), (my T), (mm T), (md T), (mt T), (T.2.2.2.2.2))) ++ [(q29, .inr (1, [.ref v9_33, .int 0, .int 0, .int (nI 0)])), (v9_33, .inl (gC G 2, 16, .inl (fun _ => 0)))]) _ := hP
    have hD9 : va_D A ((wM G b ((fth (fX2_isNone p0) (if (fX2_isFrom (0 : Int32) (27 : Int32) p1) = 0 then (1 : Int32) else (0 : Int32))), (my T), (mm T), (md T), (mt T), (T.2.2.2.2.2))) ++ [(q29, .inr (1, [.ref v9_33, .int 0, .int 0, .int (nI 0)])), (v9_33, .inl (gC G 2, 16, .inl (fun _ => 0)))]) := hD
    refine weVf (wr := (wM G b ((fth (fX2_isNone p0) (if (fX2_isFrom (0 : Int32) (27 : Int32) p1) = 0 then (1 : Int32) else (0 : Int32))), (my T), (mm T), (md T), (mt T), (T.2.2.2.2.2)))) (wd := [(q29, .inr (1, [.ref v9_33, .int 0, .int 0, .int (nI 0)])), (v9_33, .inl (gC G 2, 16, .inl (fun _ => 0)))]) (as := [.ref (ga G 6)]) (rest := []) (cl := RJ4) C (s_appS l G q29 v9_33 16 (fun _ => 0) (Or.inl rfl) sb_fit0) F_J4_append_15ec4 rfl bw1512 bw1014 (hw _ bw1015) (hE.S hS hAB) hP9 hD9 hS hA hAB (rv1 hE.K hP (q0 := 5) rfl) hl.1 dX2_field_38 ⟨Nat.le_of_ble_eq_true rfl, Nat.le_of_ble_eq_true rfl⟩ rfl (Nat.le_of_ble_eq_true rfl) ⟨Nat.le_of_ble_eq_true rfl, Nat.le_of_ble_eq_true rfl⟩ (fun r9 wd9 H locs hp9 hP hD hS => ?_)
    obtain ⟨rfl, v9_38, m9_38, f9_38, rfl, hm9_38, hle9_38, hf9_38⟩ := hp9
    have hP : va_P (gD G) vwCl ((wM G b ((fth (fX2_isNone p0) (if (fX2_isFrom (0 : Int32) (27 : Int32) p1) = 0 then (1 : Int32) else (0 : Int32))), (my T), (mm T), (md T), (mt T), (T.2.2.2.2.2))) ++ [(q29, .inr (1, [.ref v9_38, .int 0, .int 0, .int (nI 0)])), (v9_38, .inl (gC G 2, m9_38, .inl f9_38))]) H := hP
    have hD : va_D A ((wM G b ((fth (fX2_isNone p0) (if (fX2_isFrom (0 : Int32) (27 : Int32) p1) = 0 then (1 : Int32) else (0 : Int32))), (my T), (mm T), (md T), (mt T), (T.2.2.2.2.2))) ++ [(q29, .inr (1, [.ref v9_38, .int 0, .int 0, .int (nI 0)])), (v9_38, .inl (gC G 2, m9_38, .inl f9_38))]) := hD
    refine W.eq (g2 := F0 m 41 ls [.ref q29]) rfl ?_
    refine lv_iload_n hx hb dX2_field_41 rfl (lv_at hl 2 rfl) ?_
    refine lv_bipush (v := (15 : Int32)) hx hb dX2_field_42 qb_15 ?_
    refine lv_icmp_ge (tgt := 56) hx hb dX2_field_44 (by decide) (fun c_2 => ?_) (fun c_2 => ?_)
    · refine lv_aload_n hx hb dX2_field_56 rfl (lv_at hl 0 rfl) ?_
      refine lv_iload_n hx hb dX2_field_57 rfl (lv_at hl 1 rfl) ?_
      refine lv_iload_n hx hb dX2_field_58 rfl (lv_at hl 2 rfl) ?_
      refine rcVf (st1 := [.long (fX2_ofDate ((fth (fX2_isNone p0) (if (fX2_isFrom (0 : Int32) (27 : Int32) p1) = 0 then (1 : Int32) else (0 : Int32))), (my T), (mm T), (md T), (mt T), (T.2.2.2.2.2)) p0 p1), .ref q29]) (as := [.int p0, .int p1]) (rest := [.ref q29]) (cl := RX2) C (c_X2_ofDate l G b ((fth (fX2_isNone p0) (if (fX2_isFrom (0 : Int32) (27 : Int32) p1) = 0 then (1 : Int32) else (0 : Int32))), (my T), (mm T), (md T), (mt T), (T.2.2.2.2.2)) p0 p1 (none_in (frf_a c_1)) (MO.same hT rfl)) F_X2_ofDate rfl bw1553 bw1555 (hw _ bw47) (hE.S hS hAB) (show va_P (gD G) vwCl (wM G b ((fth (fX2_isNone p0) (if (fX2_isFrom (0 : Int32) (27 : Int32) p1) = 0 then (1 : Int32) else (0 : Int32))), (my T), (mm T), (md T), (mt T), (T.2.2.2.2.2))) _ from hP.sub [0, 1, 2, 3, 4] rfl) (rv4 hE.K hP (q0 := 0) rfl) hl.1 dX2_field_59 ⟨Nat.le_of_ble_eq_true rfl, Nat.le_of_ble_eq_true rfl⟩ rfl (Nat.le_of_ble_eq_true rfl) ⟨Nat.le_of_ble_eq_true rfl, Nat.le_of_ble_eq_true rfl⟩ rfl ?_
      obtain ⟨k9_62, d9_62, hs9_62⟩ := SS_of (fX2_ofDate ((fth (fX2_isNone p0) (if (fX2_isFrom (0 : Int32) (27 : Int32) p1) = 0 then (1 : Int32) else (0 : Int32))), (my T), (mm T), (md T), (mt T), (T.2.2.2.2.2)) p0 p1)
      have hP9 : va_P (gD G) vwCl ((wM G b ((fth (fX2_isNone p0) (if (fX2_isFrom (0 : Int32) (27 : Int32) p1) = 0 then (1 : Int32) else (0 : Int32))), (my T), (mm T), (md T), (mt T), (T.2.2.2.2.2))) ++ [(q29, .inr (1, [.ref v9_38, .int 0, .int 0, .int (nI 0)])), (v9_38, .inl (gC G 2, m9_38, .inl f9_38))]) _ := hP
      have hD9 : va_D A ((wM G b ((fth (fX2_isNone p0) (if (fX2_isFrom (0 : Int32) (27 : Int32) p1) = 0 then (1 : Int32) else (0 : Int32))), (my T), (mm T), (md T), (mt T), (T.2.2.2.2.2))) ++ [(q29, .inr (1, [.ref v9_38, .int 0, .int 0, .int (nI 0)])), (v9_38, .inl (gC G 2, m9_38, .inl f9_38))]) := hD
      refine weVf (wr := (wM G b ((fth (fX2_isNone p0) (if (fX2_isFrom (0 : Int32) (27 : Int32) p1) = 0 then (1 : Int32) else (0 : Int32))), (my T), (mm T), (md T), (mt T), (T.2.2.2.2.2)))) (wd := [(q29, .inr (1, [.ref v9_38, .int 0, .int 0, .int (nI 0)])), (v9_38, .inl (gC G 2, m9_38, .inl f9_38))]) (as := [.long (fX2_ofDate ((fth (fX2_isNone p0) (if (fX2_isFrom (0 : Int32) (27 : Int32) p1) = 0 then (1 : Int32) else (0 : Int32))), (my T), (mm T), (md T), (mt T), (T.2.2.2.2.2)) p0 p1)]) (rest := []) (cl := RJ4) C (s_appL l G q29 v9_38 m9_38 k9_62 d9_62 f9_38 (fX2_ofDate ((fth (fX2_isNone p0) (if (fX2_isFrom (0 : Int32) (27 : Int32) p1) = 0 then (1 : Int32) else (0 : Int32))), (my T), (mm T), (md T), (mt T), (T.2.2.2.2.2)) p0 p1) hm9_38 hf9_38.1 hs9_62) F_J4_append_f7089 rfl bw1513 bw1514 (hw _ bw1515) (hE.S hS hAB) hP9 hD9 hS hA hAB (rv1 hE.K hP (q0 := 5) rfl) hl.1 dX2_field_62 ⟨Nat.le_of_ble_eq_true rfl, Nat.le_of_ble_eq_true rfl⟩ rfl (Nat.le_of_ble_eq_true rfl) ⟨Nat.le_of_ble_eq_true rfl, Nat.le_of_ble_eq_true rfl⟩ (fun r9 wd9 H locs hp9 hP hD hS => ?_)
      obtain ⟨rfl, v9_62, m9_62, f9_62, rfl, hm9_62, hle9_62, hf9_62⟩ := hp9
      have hP : va_P (gD G) vwCl ((wM G b ((fth (fX2_isNone p0) (if (fX2_isFrom (0 : Int32) (27 : Int32) p1) = 0 then (1 : Int32) else (0 : Int32))), (my T), (mm T), (md T), (mt T), (T.2.2.2.2.2))) ++ [(q29, .inr (1, [.ref v9_62, .int 0, .int 0, .int (nI (k9_62 + d9_62))])), (v9_62, .inl (gC G 2, m9_62, .inl f9_62))]) H := hP
      have hD : va_D A ((wM G b ((fth (fX2_isNone p0) (if (fX2_isFrom (0 : Int32) (27 : Int32) p1) = 0 then (1 : Int32) else (0 : Int32))), (my T), (mm T), (md T), (mt T), (T.2.2.2.2.2))) ++ [(q29, .inr (1, [.ref v9_62, .int 0, .int 0, .int (nI (k9_62 + d9_62))])), (v9_62, .inl (gC G 2, m9_62, .inl f9_62))]) := hD
      refine W.eq (g2 := F0 m 65 ls [.ref q29]) rfl ?_
      have hP9 : va_P (gD G) vwCl ((wM G b ((fth (fX2_isNone p0) (if (fX2_isFrom (0 : Int32) (27 : Int32) p1) = 0 then (1 : Int32) else (0 : Int32))), (my T), (mm T), (md T), (mt T), (T.2.2.2.2.2))) ++ [(q29, .inr (1, [.ref v9_62, .int 0, .int 0, .int (nI (k9_62 + d9_62))])), (v9_62, .inl (gC G 2, m9_62, .inl f9_62))]) _ := hP
      have hD9 : va_D A ((wM G b ((fth (fX2_isNone p0) (if (fX2_isFrom (0 : Int32) (27 : Int32) p1) = 0 then (1 : Int32) else (0 : Int32))), (my T), (mm T), (md T), (mt T), (T.2.2.2.2.2))) ++ [(q29, .inr (1, [.ref v9_62, .int 0, .int 0, .int (nI (k9_62 + d9_62))])), (v9_62, .inl (gC G 2, m9_62, .inl f9_62))]) := hD
      refine weVf (wr := (wM G b ((fth (fX2_isNone p0) (if (fX2_isFrom (0 : Int32) (27 : Int32) p1) = 0 then (1 : Int32) else (0 : Int32))), (my T), (mm T), (md T), (mt T), (T.2.2.2.2.2)))) (wd := [(q29, .inr (1, [.ref v9_62, .int 0, .int 0, .int (nI (k9_62 + d9_62))])), (v9_62, .inl (gC G 2, m9_62, .inl f9_62))]) (as := []) (rest := []) (cl := RJ4) C (s_toString l G q29 v9_62 m9_62 (k9_62 + d9_62) (tT (fX2_ofDate ((fth (fX2_isNone p0) (if (fX2_isFrom (0 : Int32) (27 : Int32) p1) = 0 then (1 : Int32) else (0 : Int32))), (my T), (mm T), (md T), (mt T), (T.2.2.2.2.2)) p0 p1).toInt.natAbs k9_62 d9_62) f9_62 (mOK.lt hm9_62) hle9_62 hf9_62) F_J4_toString_0e30d rfl bw1540 bw943 (hw _ bw944) (hE.S hS hAB) hP9 hD9 hS hA hAB (rv1 hE.K hP (q0 := 5) rfl) hl.1 dX2_field_65 ⟨Nat.le_of_ble_eq_true rfl, Nat.le_of_ble_eq_true rfl⟩ rfl (Nat.le_of_ble_eq_true rfl) ⟨Nat.le_of_ble_eq_true rfl, Nat.le_of_ble_eq_true rfl⟩ (fun r9 wd9 H locs hp9 hP hD hS => ?_)
      obtain ⟨q9_65, u9_65, f9_65, rfl, rfl, hx9_65⟩ := hp9
      have hP : va_P (gD G) vwCl ((wM G b ((fth (fX2_isNone p0) (if (fX2_isFrom (0 : Int32) (27 : Int32) p1) = 0 then (1 : Int32) else (0 : Int32))), (my T), (mm T), (md T), (mt T), (T.2.2.2.2.2))) ++ [(q9_65, .inr (0, [.ref u9_65, .int 0, .int 0, .int 0])), (u9_65, .inl (gC G 2, (k9_62 + d9_62), .inl f9_65))]) H := hP
      have hD : va_D A ((wM G b ((fth (fX2_isNone p0) (if (fX2_isFrom (0 : Int32) (27 : Int32) p1) = 0 then (1 : Int32) else (0 : Int32))), (my T), (mm T), (md T), (mt T), (T.2.2.2.2.2))) ++ [(q9_65, .inr (0, [.ref u9_65, .int 0, .int 0, .int 0])), (u9_65, .inl (gC G 2, (k9_62 + d9_62), .inl f9_65))]) := hD
      refine W.eq (g2 := F0 m 68 ls [.ref q9_65]) rfl ?_
      exact weA hx hb hr (Or.inl ⟨_, rfl⟩) hk ⟨q9_65, [(q9_65, .inr (0, [.ref u9_65, .int 0, .int 0, .int 0])), (u9_65, .inl (gC G 2, (k9_62 + d9_62), .inl f9_65))], rfl, (congrArg (fun z9 => wM G b z9 ++ [(q9_65, .inr (0, [.ref u9_65, .int 0, .int 0, .int 0])), (u9_65, .inl (gC G 2, (k9_62 + d9_62), .inl f9_65))]) (show gX2_field T p0 p1 = ((fth (fX2_isNone p0) (if (fX2_isFrom (0 : Int32) (27 : Int32) p1) = 0 then (1 : Int32) else (0 : Int32))), (my T), (mm T), (md T), (mt T), (T.2.2.2.2.2)) from (Eq.trans (if_pos c_1) (if_pos c_2))).symm), TXO.dig (show oX2_field T p0 p1 = (some (some (fX2_ofDate ((fth (fX2_isNone p0) (if (fX2_isFrom (0 : Int32) (27 : Int32) p1) = 0 then (1 : Int32) else (0 : Int32))), (my T), (mm T), (md T), (mt T), (T.2.2.2.2.2)) p0 p1))) from (Eq.trans (if_pos c_1) (if_pos c_2))) ⟨_, _, _, _, rfl, hs9_62, hx9_65⟩⟩ hP hD hS (Nat.le_of_ble_eq_true rfl) (Nat.le_of_ble_eq_true rfl) dX2_field_68
    · refine lv_aload_n hx hb dX2_field_47 rfl (lv_at hl 0 rfl) ?_
      refine lv_iload_n hx hb dX2_field_48 rfl (lv_at hl 1 rfl) ?_
      refine lv_iload_n hx hb dX2_field_49 rfl (lv_at hl 2 rfl) ?_
      refine rcVf (st1 := [.long (fX2_ofTime ((fth (fX2_isNone p0) (if (fX2_isFrom (0 : Int32) (27 : Int32) p1) = 0 then (1 : Int32) else (0 : Int32))), (my T), (mm T), (md T), (mt T), (T.2.2.2.2.2)) p0 p1), .ref q29]) (as := [.int p0, .int p1]) (rest := [.ref q29]) (cl := RX2) C (c_X2_ofTime l G b ((fth (fX2_isNone p0) (if (fX2_isFrom (0 : Int32) (27 : Int32) p1) = 0 then (1 : Int32) else (0 : Int32))), (my T), (mm T), (md T), (mt T), (T.2.2.2.2.2)) p0 p1 (none_in (frf_a c_1))) F_X2_ofTime rfl bw1549 bw1551 (hw _ bw46) (hE.S hS hAB) (show va_P (gD G) vwCl (wM G b ((fth (fX2_isNone p0) (if (fX2_isFrom (0 : Int32) (27 : Int32) p1) = 0 then (1 : Int32) else (0 : Int32))), (my T), (mm T), (md T), (mt T), (T.2.2.2.2.2))) _ from hP.sub [0, 1, 2, 3, 4] rfl) (rv4 hE.K hP (q0 := 0) rfl) hl.1 dX2_field_50 ⟨Nat.le_of_ble_eq_true rfl, Nat.le_of_ble_eq_true rfl⟩ rfl (Nat.le_of_ble_eq_true rfl) ⟨Nat.le_of_ble_eq_true rfl, Nat.le_of_ble_eq_true rfl⟩ rfl ?_
      refine lv_goto (tgt := 62) hx hb dX2_field_53 (by decide) ?_
      obtain ⟨k9_62, d9_62, hs9_62⟩ := SS_of (fX2_ofTime ((fth (fX2_isNone p0) (if (fX2_isFrom (0 : Int32) (27 : Int32) p1) = 0 then (1 : Int32) else (0 : Int32))), (my T), (mm T), (md T), (mt T), (T.2.2.2.2.2)) p0 p1)
      have hP9 : va_P (gD G) vwCl ((wM G b ((fth (fX2_isNone p0) (if (fX2_isFrom (0 : Int32) (27 : Int32) p1) = 0 then (1 : Int32) else (0 : Int32))), (my T), (mm T), (md T), (mt T), (T.2.2.2.2.2))) ++ [(q29, .inr (1, [.ref v9_38, .int 0, .int 0, .int (nI 0)])), (v9_38, .inl (gC G 2, m9_38, .inl f9_38))]) _ := hP
      have hD9 : va_D A ((wM G b ((fth (fX2_isNone p0) (if (fX2_isFrom (0 : Int32) (27 : Int32) p1) = 0 then (1 : Int32) else (0 : Int32))), (my T), (mm T), (md T), (mt T), (T.2.2.2.2.2))) ++ [(q29, .inr (1, [.ref v9_38, .int 0, .int 0, .int (nI 0)])), (v9_38, .inl (gC G 2, m9_38, .inl f9_38))]) := hD
      refine weVf (wr := (wM G b ((fth (fX2_isNone p0) (if (fX2_isFrom (0 : Int32) (27 : Int32) p1) = 0 then (1 : Int32) else (0 : Int32))), (my T), (mm T), (md T), (mt T), (T.2.2.2.2.2)))) (wd := [(q29, .inr (1, [.ref v9_38, .int 0, .int 0, .int (nI 0)])), (v9_38, .inl (gC G 2, m9_38, .inl f9_38))]) (as := [.long (fX2_ofTime ((fth (fX2_isNone p0) (if (fX2_isFrom (0 : Int32) (27 : Int32) p1) = 0 then (1 : Int32) else (0 : Int32))), (my T), (mm T), (md T), (mt T), (T.2.2.2.2.2)) p0 p1)]) (rest := []) (cl := RJ4) C (s_appL l G q29 v9_38 m9_38 k9_62 d9_62 f9_38 (fX2_ofTime ((fth (fX2_isNone p0) (if (fX2_isFrom (0 : Int32) (27 : Int32) p1) = 0 then (1 : Int32) else (0 : Int32))), (my T), (mm T), (md T), (mt T), (T.2.2.2.2.2)) p0 p1) hm9_38 hf9_38.1 hs9_62) F_J4_append_f7089 rfl bw1513 bw1514 (hw _ bw1515) (hE.S hS hAB) hP9 hD9 hS hA hAB (rv1 hE.K hP (q0 := 5) rfl) hl.1 dX2_field_62 ⟨Nat.le_of_ble_eq_true rfl, Nat.le_of_ble_eq_true rfl⟩ rfl (Nat.le_of_ble_eq_true rfl) ⟨Nat.le_of_ble_eq_true rfl, Nat.le_of_ble_eq_true rfl⟩ (fun r9 wd9 H locs hp9 hP hD hS => ?_)
      obtain ⟨rfl, v9_62, m9_62, f9_62, rfl, hm9_62, hle9_62, hf9_62⟩ := hp9
      have hP : va_P (gD G) vwCl ((wM G b ((fth (fX2_isNone p0) (if (fX2_isFrom (0 : Int32) (27 : Int32) p1) = 0 then (1 : Int32) else (0 : Int32))), (my T), (mm T), (md T), (mt T), (T.2.2.2.2.2))) ++ [(q29, .inr (1, [.ref v9_62, .int 0, .int 0, .int (nI (k9_62 + d9_62))])), (v9_62, .inl (gC G 2, m9_62, .inl f9_62))]) H := hP
      have hD : va_D A ((wM G b ((fth (fX2_isNone p0) (if (fX2_isFrom (0 : Int32) (27 : Int32) p1) = 0 then (1 : Int32) else (0 : Int32))), (my T), (mm T), (md T), (mt T), (T.2.2.2.2.2))) ++ [(q29, .inr (1, [.ref v9_62, .int 0, .int 0, .int (nI (k9_62 + d9_62))])), (v9_62, .inl (gC G 2, m9_62, .inl f9_62))]) := hD
      refine W.eq (g2 := F0 m 65 ls [.ref q29]) rfl ?_
      have hP9 : va_P (gD G) vwCl ((wM G b ((fth (fX2_isNone p0) (if (fX2_isFrom (0 : Int32) (27 : Int32) p1) = 0 then (1 : Int32) else (0 : Int32))), (my T), (mm T), (md T), (mt T), (T.2.2.2.2.2))) ++ [(q29, .inr (1, [.ref v9_62, .int 0, .int 0, .int (nI (k9_62 + d9_62))])), (v9_62, .inl (gC G 2, m9_62, .inl f9_62))]) _ := hP
      have hD9 : va_D A ((wM G b ((fth (fX2_isNone p0) (if (fX2_isFrom (0 : Int32) (27 : Int32) p1) = 0 then (1 : Int32) else (0 : Int32))), (my T), (mm T), (md T), (mt T), (T.2.2.2.2.2))) ++ [(q29, .inr (1, [.ref v9_62, .int 0, .int 0, .int (nI (k9_62 + d9_62))])), (v9_62, .inl (gC G 2, m9_62, .inl f9_62))]) := hD
      refine weVf (wr := (wM G b ((fth (fX2_isNone p0) (if (fX2_isFrom (0 : Int32) (27 : Int32) p1) = 0 then (1 : Int32) else (0 : Int32))), (my T), (mm T), (md T), (mt T), (T.2.2.2.2.2)))) (wd := [(q29, .inr (1, [.ref v9_62, .int 0, .int 0, .int (nI (k9_62 + d9_62))])), (v9_62, .inl (gC G 2, m9_62, .inl f9_62))]) (as := []) (rest := []) (cl := RJ4) C (s_toString l G q29 v9_62 m9_62 (k9_62 + d9_62) (tT (fX2_ofTime ((fth (fX2_isNone p0) (if (fX2_isFrom (0 : Int32) (27 : Int32) p1) = 0 then (1 : Int32) else (0 : Int32))), (my T), (mm T), (md T), (mt T), (T.2.2.2.2.2)) p0 p1).toInt.natAbs k9_62 d9_62) f9_62 (mOK.lt hm9_62) hle9_62 hf9_62) F_J4_toString_0e30d rfl bw1540 bw943 (hw _ bw944) (hE.S hS hAB) hP9 hD9 hS hA hAB (rv1 hE.K hP (q0 := 5) rfl) hl.1 dX2_field_65 ⟨Nat.le_of_ble_eq_true rfl, Nat.le_of_ble_eq_true rfl⟩ rfl (Nat.le_of_ble_eq_true rfl) ⟨Nat.le_of_ble_eq_true rfl, Nat.le_of_ble_eq_true rfl⟩ (fun r9 wd9 H locs hp9 hP hD hS => ?_)
      obtain ⟨q9_65, u9_65, f9_65, rfl, rfl, hx9_65⟩ := hp9
      have hP : va_P (gD G) vwCl ((wM G b ((fth (fX2_isNone p0) (if (fX2_isFrom (0 : Int32) (27 : Int32) p1) = 0 then (1 : Int32) else (0 : Int32))), (my T), (mm T), (md T), (mt T), (T.2.2.2.2.2))) ++ [(q9_65, .inr (0, [.ref u9_65, .int 0, .int 0, .int 0])), (u9_65, .inl (gC G 2, (k9_62 + d9_62), .inl f9_65))]) H := hP
      have hD : va_D A ((wM G b ((fth (fX2_isNone p0) (if (fX2_isFrom (0 : Int32) (27 : Int32) p1) = 0 then (1 : Int32) else (0 : Int32))), (my T), (mm T), (md T), (mt T), (T.2.2.2.2.2))) ++ [(q9_65, .inr (0, [.ref u9_65, .int 0, .int 0, .int 0])), (u9_65, .inl (gC G 2, (k9_62 + d9_62), .inl f9_65))]) := hD
      refine W.eq (g2 := F0 m 68 ls [.ref q9_65]) rfl ?_
      exact weA hx hb hr (Or.inl ⟨_, rfl⟩) hk ⟨q9_65, [(q9_65, .inr (0, [.ref u9_65, .int 0, .int 0, .int 0])), (u9_65, .inl (gC G 2, (k9_62 + d9_62), .inl f9_65))], rfl, (congrArg (fun z9 => wM G b z9 ++ [(q9_65, .inr (0, [.ref u9_65, .int 0, .int 0, .int 0])), (u9_65, .inl (gC G 2, (k9_62 + d9_62), .inl f9_65))]) (show gX2_field T p0 p1 = ((fth (fX2_isNone p0) (if (fX2_isFrom (0 : Int32) (27 : Int32) p1) = 0 then (1 : Int32) else (0 : Int32))), (my T), (mm T), (md T), (mt T), (T.2.2.2.2.2)) from (Eq.trans (if_pos c_1) (if_neg c_2))).symm), TXO.dig (show oX2_field T p0 p1 = (some (some (fX2_ofTime ((fth (fX2_isNone p0) (if (fX2_isFrom (0 : Int32) (27 : Int32) p1) = 0 then (1 : Int32) else (0 : Int32))), (my T), (mm T), (md T), (mt T), (T.2.2.2.2.2)) p0 p1))) from (Eq.trans (if_pos c_1) (if_neg c_2))) ⟨_, _, _, _, rfl, hs9_62, hx9_65⟩⟩ hP hD hS (Nat.le_of_ble_eq_true rfl) (Nat.le_of_ble_eq_true rfl) dX2_field_68
  · have c_1 := rf_n c_1
    refine va_ldcS hx hb hown hE.1.2.2.2.2.1 dX2_field_26 ?_
    exact weA hx hb hr (Or.inl ⟨_, rfl⟩) hk ⟨_, [], rfl, (congrArg (fun z9 => wM G b z9 ++ []) (show gX2_field T p0 p1 = ((fth (fX2_isNone p0) (if (fX2_isFrom (0 : Int32) (27 : Int32) p1) = 0 then (1 : Int32) else (0 : Int32))), (my T), (mm T), (md T), (mt T), (T.2.2.2.2.2)) from (if_neg c_1)).symm), TXO.no (show oX2_field T p0 p1 = none from (if_neg c_1))⟩ (P_nil hP) (D_nil hD) hS (Nat.le_of_ble_eq_true rfl) (Nat.le_of_ble_eq_true rfl) dX2_field_28

set_option maxRecDepth 100000 in
set_option maxHeartbeats 4000000 in
theorem u_betweenNow (l : Launch) (G : GT) (b : Nat → Nat) (T : SM) (p0 : Int32) (p1 : Int32) (p2 : Int32) (h0 : vp_in p0 6) (h1 : vp_in p1 6) (hT : MO T) : WE l G yX2_betweenNow cX2_betweenNow 7 (some (.object "java/lang/String")) 9 6 160 [.ref (b 0), .int p0, .int p1, .int p2] (wM G b T) (fun r wd => ∃ (q : Nat) (ws : va_W), r = some (.ref q) ∧ wd = wM G b (gX2_betweenNow T p0 p1 p2) ++ ws ∧ TXO G q (oX2_betweenNow T p0 p1 p2) ws) := by
  refine WE.ofW (own := RX2) rfl (plainFor_of_name pnN_RX2) (Nat.le_of_ble_eq_true rfl) ?_
  intro p e s m below meth c A C hr hk hnm hE hP hD hA hAB hS ls hl
  have hx := C.1
  have hb := C.2.1
  have hml := C.2.2.1
  have hown := C.2.2.2.1
  have hw := C.2.2.2.2
  have hl : lv_has ls 7 [(0, .ref (b 0)), (1, .int p0), (2, .int p1), (3, .int p2)] := hl
  refine lv_iload_n hx hb dX2_betweenNow_0 rfl (lv_at hl 3 rfl) ?_
  refine lv_if_ne (tgt := 29) hx hb dX2_betweenNow_1 (by decide) (fun c_1 => ?_) (fun c_1 => ?_)
  · refine lv_iconst (v := (0 : Int32)) hx hb dX2_betweenNow_29 qi_0 ?_
    refine lv_istore (lv' := [(4, .int (0 : Int32)), (0, .ref (b 0)), (1, .int p0), (2, .int p1), (3, .int p2)]) hx hb dX2_betweenNow_30 hl (Nat.le_of_ble_eq_true rfl) rfl (fun ls hl => ?_)
    refine lv_iload hx hb dX2_betweenNow_32 (lv_at hl 0 rfl) ?_
    refine lv_if_ne (tgt := 65) hx hb dX2_betweenNow_34 (by decide) (fun c_x => absurd (show (0 : Int32) = 0 from by decide) c_x) (fun _ => ?_)
    refine lv_iload_n hx hb dX2_betweenNow_37 rfl (lv_at hl 4 rfl) ?_
    refine lv_bipush (v := (8 : Int32)) hx hb dX2_betweenNow_38 qb_8 ?_
    refine lv_icmp_le (tgt := 78) hx hb dX2_betweenNow_40 (by decide) (fun c_2 => ?_) (fun c_2 => ?_)
    · refine lv_iload_n hx hb dX2_betweenNow_78 rfl (lv_at hl 4 rfl) ?_
      refine lv_bipush (v := (9 : Int32)) hx hb dX2_betweenNow_79 qb_9 ?_
      refine lv_icmp_ge (tgt := 110) hx hb dX2_betweenNow_81 (by decide) (fun c_x => absurd c_x (le8_9 c_2)) (fun _ => ?_)
      refine va_new (cl := vwCl) (tys := gT G) (ci := 1) (fs := [.null, .int 0, .int 0, .int 0]) (C := RJ4) (T := TJ4) (N := 4) hx hb hw inB_J4 tyJ4 tyJ4_ok hown (hw _ bw1510) (hw _ bw778) (hw _ bw67) hE.K hP hD hS hA rfl (fun j hj => by rcases (show j = 0 ∨ j = 1 ∨ j = 2 ∨ j = 3 by omega) with rfl | rfl | rfl | rfl <;> rfl) (Nat.le_of_ble_eq_true rfl) (Nat.le_of_ble_eq_true rfl) dX2_betweenNow_84 (fun q84 H hP hD hS => ?_)
      have hP : va_P (gD G) vwCl ((wM G b T) ++ [(q84, .inr (1, [.null, .int 0, .int 0, .int 0]))]) H := hP
      have hD : va_D A ((wM G b T) ++ [(q84, .inr (1, [.null, .int 0, .int 0, .int 0]))]) := hD
      refine lv_dup hx hb dX2_betweenNow_87 rfl ?_
      have hP9 : va_P (gD G) vwCl ((wM G b T) ++ [(q84, .inr (1, [.null, .int 0, .int 0, .int 0]))]) _ := hP
      have hD9 : va_D A ((wM G b T) ++ [(q84, .inr (1, [.null, .int 0, .int 0, .int 0]))]) := hD
      refine weI (wr := (wM G b T)) (wd := [(q84, .inr (1, [.null, .int 0, .int 0, .int 0]))]) (as := []) (rest := [.ref q84]) C (i_J4_init_da8c8 l G q84) F_J4_init_da8c8 rfl bw1511 bw780 rfl (hE.S hS hAB) hP9 hD9 hS hA hAB hl.1 dX2_betweenNow_88 ⟨Nat.le_of_ble_eq_true rfl, Nat.le_of_ble_eq_true rfl⟩ rfl (Nat.le_of_ble_eq_true rfl) ⟨Nat.le_of_ble_eq_true rfl, Nat.le_of_ble_eq_true rfl⟩ (fun r9 wd9 H locs hp9 hP hD hS => ?_)
      obtain ⟨rfl, v9_88, rfl⟩ := hp9
      have hP : va_P (gD G) vwCl ((wM G b T) ++ [(q84, .inr (1, [.ref v9_88, .int 0, .int 0, .int (nI 0)])), (v9_88, .inl (gC G 2, 16, .inl (fun _ => 0)))]) H := hP
      have hD : va_D A ((wM G b T) ++ [(q84, .inr (1, [.ref v9_88, .int 0, .int 0, .int (nI 0)])), (v9_88, .inl (gC G 2, 16, .inl (fun _ => 0)))]) := hD
      refine W.eq (g2 := F0 m 91 ls [.ref q84]) rfl ?_
      refine va_ldcS hx hb hown hE.1.2.2.2.2.1 dX2_betweenNow_91 ?_
      have hP9 : va_P (gD G) vwCl ((wM G b T) ++ [(q84, .inr (1, [.ref v9_88, .int 0, .int 0, .int (nI 0)])), (v9_88, .inl (gC G 2, 16, .inl (fun _ => 0)))]) _ := hP
      have hD9 : va_D A ((wM G b T) ++ [(q84, .inr (1, [.ref v9_88, .int 0, .int 0, .int (nI 0)])), (v9_88, .inl (gC G 2, 16, .inl (fun _ => 0)))]) := hD
      refine weVf (wr := (wM G b T)) (wd := [(q84, .inr (1, [.ref v9_88, .int 0, .int 0, .int (nI 0)])), (v9_88, .inl (gC G 2, 16, .inl (fun _ => 0)))]) (as := [.ref (ga G 6)]) (rest := []) (cl := RJ4) C (s_appS l G q84 v9_88 16 (fun _ => 0) (Or.inl rfl) sb_fit0) F_J4_append_15ec4 rfl bw1512 bw1014 (hw _ bw1015) (hE.S hS hAB) hP9 hD9 hS hA hAB (rv1 hE.K hP (q0 := 5) rfl) hl.1 dX2_betweenNow_93 ⟨Nat.le_of_ble_eq_true rfl, Nat.le_of_ble_eq_true rfl⟩ rfl (Nat.le_of_ble_eq_true rfl) ⟨Nat.le_of_ble_eq_true rfl, Nat.le_of_ble_eq_true rfl⟩ (fun r9 wd9 H locs hp9 hP hD hS => ?_)
      obtain ⟨rfl, v9_93, m9_93, f9_93, rfl, hm9_93, hle9_93, hf9_93⟩ := hp9
      have hP : va_P (gD G) vwCl ((wM G b T) ++ [(q84, .inr (1, [.ref v9_93, .int 0, .int 0, .int (nI 0)])), (v9_93, .inl (gC G 2, m9_93, .inl f9_93))]) H := hP
      have hD : va_D A ((wM G b T) ++ [(q84, .inr (1, [.ref v9_93, .int 0, .int 0, .int (nI 0)])), (v9_93, .inl (gC G 2, m9_93, .inl f9_93))]) := hD
      refine W.eq (g2 := F0 m 96 ls [.ref q84]) rfl ?_
      refine lv_aload_n hx hb dX2_betweenNow_96 rfl (lv_at hl 1 rfl) ?_
      refine lv_iload_n hx hb dX2_betweenNow_97 rfl (lv_at hl 2 rfl) ?_
      refine lv_iload_n hx hb dX2_betweenNow_98 rfl (lv_at hl 3 rfl) ?_
      refine lv_iload_n hx hb dX2_betweenNow_99 rfl (lv_at hl 4 rfl) ?_
      refine rcVf (st1 := [.long (fX2_lineBetween T p0 p1 p2), .ref q84]) (as := [.int p0, .int p1, .int p2]) (rest := [.ref q84]) (cl := RX2) C (c_X2_lineBetween l G b T p0 p1 p2 h0 h1 hT) F_X2_lineBetween rfl bw1584 bw1586 (hw _ bw50) (hE.S hS hAB) (show va_P (gD G) vwCl (wM G b T) _ from hP.sub [0, 1, 2, 3, 4] rfl) (rv4 hE.K hP (q0 := 0) rfl) hl.1 dX2_betweenNow_100 ⟨Nat.le_of_ble_eq_true rfl, Nat.le_of_ble_eq_true rfl⟩ rfl (Nat.le_of_ble_eq_true rfl) ⟨Nat.le_of_ble_eq_true rfl, Nat.le_of_ble_eq_true rfl⟩ rfl ?_
      obtain ⟨k9_103, d9_103, hs9_103⟩ := SS_of (fX2_lineBetween T p0 p1 p2)
      have hP9 : va_P (gD G) vwCl ((wM G b T) ++ [(q84, .inr (1, [.ref v9_93, .int 0, .int 0, .int (nI 0)])), (v9_93, .inl (gC G 2, m9_93, .inl f9_93))]) _ := hP
      have hD9 : va_D A ((wM G b T) ++ [(q84, .inr (1, [.ref v9_93, .int 0, .int 0, .int (nI 0)])), (v9_93, .inl (gC G 2, m9_93, .inl f9_93))]) := hD
      refine weVf (wr := (wM G b T)) (wd := [(q84, .inr (1, [.ref v9_93, .int 0, .int 0, .int (nI 0)])), (v9_93, .inl (gC G 2, m9_93, .inl f9_93))]) (as := [.long (fX2_lineBetween T p0 p1 p2)]) (rest := []) (cl := RJ4) C (s_appL l G q84 v9_93 m9_93 k9_103 d9_103 f9_93 (fX2_lineBetween T p0 p1 p2) hm9_93 hf9_93.1 hs9_103) F_J4_append_f7089 rfl bw1513 bw1514 (hw _ bw1515) (hE.S hS hAB) hP9 hD9 hS hA hAB (rv1 hE.K hP (q0 := 5) rfl) hl.1 dX2_betweenNow_103 ⟨Nat.le_of_ble_eq_true rfl, Nat.le_of_ble_eq_true rfl⟩ rfl (Nat.le_of_ble_eq_true rfl) ⟨Nat.le_of_ble_eq_true rfl, Nat.le_of_ble_eq_true rfl⟩ (fun r9 wd9 H locs hp9 hP hD hS => ?_)
      obtain ⟨rfl, v9_103, m9_103, f9_103, rfl, hm9_103, hle9_103, hf9_103⟩ := hp9
      have hP : va_P (gD G) vwCl ((wM G b T) ++ [(q84, .inr (1, [.ref v9_103, .int 0, .int 0, .int (nI (k9_103 + d9_103))])), (v9_103, .inl (gC G 2, m9_103, .inl f9_103))]) H := hP
      have hD : va_D A ((wM G b T) ++ [(q84, .inr (1, [.ref v9_103, .int 0, .int 0, .int (nI (k9_103 + d9_103))])), (v9_103, .inl (gC G 2, m9_103, .inl f9_103))]) := hD
      refine W.eq (g2 := F0 m 106 ls [.ref q84]) rfl ?_
      have hP9 : va_P (gD G) vwCl ((wM G b T) ++ [(q84, .inr (1, [.ref v9_103, .int 0, .int 0, .int (nI (k9_103 + d9_103))])), (v9_103, .inl (gC G 2, m9_103, .inl f9_103))]) _ := hP
      have hD9 : va_D A ((wM G b T) ++ [(q84, .inr (1, [.ref v9_103, .int 0, .int 0, .int (nI (k9_103 + d9_103))])), (v9_103, .inl (gC G 2, m9_103, .inl f9_103))]) := hD
      refine weVf (wr := (wM G b T)) (wd := [(q84, .inr (1, [.ref v9_103, .int 0, .int 0, .int (nI (k9_103 + d9_103))])), (v9_103, .inl (gC G 2, m9_103, .inl f9_103))]) (as := []) (rest := []) (cl := RJ4) C (s_toString l G q84 v9_103 m9_103 (k9_103 + d9_103) (tT (fX2_lineBetween T p0 p1 p2).toInt.natAbs k9_103 d9_103) f9_103 (mOK.lt hm9_103) hle9_103 hf9_103) F_J4_toString_0e30d rfl bw1540 bw943 (hw _ bw944) (hE.S hS hAB) hP9 hD9 hS hA hAB (rv1 hE.K hP (q0 := 5) rfl) hl.1 dX2_betweenNow_106 ⟨Nat.le_of_ble_eq_true rfl, Nat.le_of_ble_eq_true rfl⟩ rfl (Nat.le_of_ble_eq_true rfl) ⟨Nat.le_of_ble_eq_true rfl, Nat.le_of_ble_eq_true rfl⟩ (fun r9 wd9 H locs hp9 hP hD hS => ?_)
      obtain ⟨q9_106, u9_106, f9_106, rfl, rfl, hx9_106⟩ := hp9
      have hP : va_P (gD G) vwCl ((wM G b T) ++ [(q9_106, .inr (0, [.ref u9_106, .int 0, .int 0, .int 0])), (u9_106, .inl (gC G 2, (k9_103 + d9_103), .inl f9_106))]) H := hP
      have hD : va_D A ((wM G b T) ++ [(q9_106, .inr (0, [.ref u9_106, .int 0, .int 0, .int 0])), (u9_106, .inl (gC G 2, (k9_103 + d9_103), .inl f9_106))]) := hD
      refine W.eq (g2 := F0 m 109 ls [.ref q9_106]) rfl ?_
      exact weA hx hb hr (Or.inl ⟨_, rfl⟩) hk ⟨q9_106, [(q9_106, .inr (0, [.ref u9_106, .int 0, .int 0, .int 0])), (u9_106, .inl (gC G 2, (k9_103 + d9_103), .inl f9_106))], rfl, (congrArg (fun z9 => wM G b z9 ++ [(q9_106, .inr (0, [.ref u9_106, .int 0, .int 0, .int 0])), (u9_106, .inl (gC G 2, (k9_103 + d9_103), .inl f9_106))]) (show gX2_betweenNow T p0 p1 p2 = T from (Eq.trans (if_neg c_1) (if_pos c_2))).symm), TXO.dig (show oX2_betweenNow T p0 p1 p2 = (some (some (fX2_lineBetween T p0 p1 p2))) from (Eq.trans (if_neg c_1) (if_pos c_2))) ⟨_, _, _, _, rfl, hs9_103, hx9_106⟩⟩ hP hD hS (Nat.le_of_ble_eq_true rfl) (Nat.le_of_ble_eq_true rfl) dX2_betweenNow_109
    · refine lv_aload_n hx hb dX2_betweenNow_43 rfl (lv_at hl 1 rfl) ?_
      refine va_get (D := gD G) (cl := vwCl) (tys := gT G) (ci := 4) (v := .ref (b 3)) (C := RX2) (T := TX2) (N := 12) hx hb hw inB_X2 hown hE.K hP 0 rfl rfl 3 (by decide) (hw _ bw1166) (fun _ h9 => h9) rfl dX2_betweenNow_44 ?_
      refine lv_iload_n hx hb dX2_betweenNow_47 rfl (lv_at hl 2 rfl) ?_
      refine va_iald (tys := gT G) hx hb hE.K hP 3 0 rfl rfl h0 dX2_betweenNow_48 ?_
      refine lv_bipush (v := (28 : Int32)) hx hb dX2_betweenNow_49 qb_28 ?_
      refine lv_icmp_gt (tgt := 65) hx hb dX2_betweenNow_51 (by decide) (fun c_3 => ?_) (fun c_3 => ?_)
      · refine lv_aload_n hx hb dX2_betweenNow_65 rfl (lv_at hl 1 rfl) ?_
        refine lv_dup hx hb dX2_betweenNow_66 rfl ?_
        refine va_get (D := gD G) (cl := vwCl) (tys := gT G) (ci := 4) (v := .int (mi T 5)) (C := RX2) (T := TX2) (N := 12) hx hb hw inB_X2 hown hE.K hP 0 rfl rfl 10 (by decide) (hw _ bw1173) (fun _ h9 => h9) rfl dX2_betweenNow_67 ?_
        refine lv_iconst (v := (1 : Int32)) hx hb dX2_betweenNow_70 qi_1 ?_
        refine lv_iadd hx hb dX2_betweenNow_71 ?_
        refine va_put (D := gD G) (cl := vwCl) (tys := gT G) (ci := 4) (v := .int ((mi T 5) + (1 : Int32))) (ty := .int) (C := RX2) (T := TX2) (N := 12) hx hb hw inB_X2 tyX2 tyX2_ok nmX2 hown hE.K hP hD hS 0 rfl rfl 10 (by decide) (hw _ bw1173) (fun _ h9 => h9) rfl (by decide +kernel) rfl rfl (Nat.le_of_ble_eq_true rfl) dX2_betweenNow_72 (fun H locs hP hD hS => ?_)
        have hP : va_P (gD G) vwCl (wM G b ((mth T), (my T), (mm T), (md T), (mt T), (upd (T.2.2.2.2.2) 5 ((mi T 5) + (1 : Int32))))) H := hP
        have hD : va_D A (wM G b ((mth T), (my T), (mm T), (md T), (mt T), (upd (T.2.2.2.2.2) 5 ((mi T 5) + (1 : Int32))))) := hD
        refine va_ldcS hx hb hown hE.1.2.2.2.2.2.1 dX2_betweenNow_75 ?_
        exact weA hx hb hr (Or.inl ⟨_, rfl⟩) hk ⟨_, [], rfl, (congrArg (fun z9 => wM G b z9 ++ []) (show gX2_betweenNow T p0 p1 p2 = ((mth T), (my T), (mm T), (md T), (mt T), (upd (T.2.2.2.2.2) 5 ((mi T 5) + (1 : Int32)))) from (Eq.trans (if_neg c_1) (Eq.trans (if_neg c_2) (if_pos c_3)))).symm), TXO.bang (show oX2_betweenNow T p0 p1 p2 = (some none) from (Eq.trans (if_neg c_1) (Eq.trans (if_neg c_2) (if_pos c_3))))⟩ (P_nil hP) (D_nil hD) hS (Nat.le_of_ble_eq_true rfl) (Nat.le_of_ble_eq_true rfl) dX2_betweenNow_77
      · refine lv_aload_n hx hb dX2_betweenNow_54 rfl (lv_at hl 1 rfl) ?_
        refine va_get (D := gD G) (cl := vwCl) (tys := gT G) (ci := 4) (v := .ref (b 3)) (C := RX2) (T := TX2) (N := 12) hx hb hw inB_X2 hown hE.K hP 0 rfl rfl 3 (by decide) (hw _ bw1166) (fun _ h9 => h9) rfl dX2_betweenNow_55 ?_
        refine lv_iload_n hx hb dX2_betweenNow_58 rfl (lv_at hl 3 rfl) ?_
        refine va_iald (tys := gT G) hx hb hE.K hP 3 0 rfl rfl h1 dX2_betweenNow_59 ?_
        refine lv_bipush (v := (28 : Int32)) hx hb dX2_betweenNow_60 qb_28 ?_
        refine lv_icmp_le (tgt := 78) hx hb dX2_betweenNow_62 (by decide) (fun c_4 => ?_) (fun c_4 => ?_)
        · refine lv_iload_n hx hb dX2_betweenNow_78 rfl (lv_at hl 4 rfl) ?_
          refine lv_bipush (v := (9 : Int32)) hx hb dX2_betweenNow_79 qb_9 ?_
          refine lv_icmp_ge (tgt := 110) hx hb dX2_betweenNow_81 (by decide) (fun _ => ?_) (fun c_x => absurd (gt8_9 c_2) c_x)
          refine lv_aload_n hx hb dX2_betweenNow_110 rfl (lv_at hl 1 rfl) ?_
          refine lv_iload_n hx hb dX2_betweenNow_111 rfl (lv_at hl 2 rfl) ?_
          refine lv_iload_n hx hb dX2_betweenNow_112 rfl (lv_at hl 3 rfl) ?_
          refine rcVi (as := [.int p0, .int p1]) (rest := []) (cl := RX2) C (c_X2_order l G b T p0 p1 h0 h1 hT) F_X2_order rfl bw1561 bw1563 bw48 (hE.S hS hAB) hP (rv4 hE.K hP (q0 := 0) rfl) hl.1 dX2_betweenNow_113 ⟨Nat.le_of_ble_eq_true rfl, Nat.le_of_ble_eq_true rfl⟩ rfl (Nat.le_of_ble_eq_true rfl) ⟨Nat.le_of_ble_eq_true rfl, Nat.le_of_ble_eq_true rfl⟩ ?_
          refine lv_if_gt (tgt := 128) hx hb dX2_betweenNow_116 (by decide) (fun c_5 => ?_) (fun c_5 => ?_)
          · refine lv_aload_n hx hb dX2_betweenNow_128 rfl (lv_at hl 1 rfl) ?_
            refine lv_iload_n hx hb dX2_betweenNow_129 rfl (lv_at hl 2 rfl) ?_
            refine lv_iload_n hx hb dX2_betweenNow_130 rfl (lv_at hl 3 rfl) ?_
            refine rcVl (as := [.int p0, .int p1]) (rest := []) (cl := RX2) C (c_X2_monthsBack l G b T p0 p1 h0 h1) F_X2_monthsBack rfl bw1592 bw1594 bw52 (hE.S hS hAB) hP (rv4 hE.K hP (q0 := 0) rfl) hl.1 dX2_betweenNow_131 ⟨Nat.le_of_ble_eq_true rfl, Nat.le_of_ble_eq_true rfl⟩ rfl (Nat.le_of_ble_eq_true rfl) ⟨Nat.le_of_ble_eq_true rfl, Nat.le_of_ble_eq_true rfl⟩ ?_
            refine lv_lneg hx hb dX2_betweenNow_134 ?_
            refine lv_lstore (lv' := [(5, .long (-(fX2_monthsBack T p0 p1))), (4, .int (0 : Int32)), (0, .ref (b 0)), (1, .int p0), (2, .int p1), (3, .int p2)]) hx hb dX2_betweenNow_135 hl (Nat.le_of_ble_eq_true rfl) rfl (fun ls hl => ?_)
            refine va_new (cl := vwCl) (tys := gT G) (ci := 1) (fs := [.null, .int 0, .int 0, .int 0]) (C := RJ4) (T := TJ4) (N := 4) hx hb hw inB_J4 tyJ4 tyJ4_ok hown (hw _ bw1510) (hw _ bw778) (hw _ bw67) hE.K hP hD hS hA rfl (fun j hj => by rcases (show j = 0 ∨ j = 1 ∨ j = 2 ∨ j = 3 by omega) with rfl | rfl | rfl | rfl <;> rfl) (Nat.le_of_ble_eq_true rfl) (Nat.le_of_ble_eq_true rfl) dX2_betweenNow_137 (fun q137 H hP hD hS => ?_)
            have hP : va_P (gD G) vwCl ((wM G b T) ++ [(q137, .inr (1, [.null, .int 0, .int 0, .int 0]))]) H := hP
            have hD : va_D A ((wM G b T) ++ [(q137, .inr (1, [.null, .int 0, .int 0, .int 0]))]) := hD
            refine lv_dup hx hb dX2_betweenNow_140 rfl ?_
            have hP9 : va_P (gD G) vwCl ((wM G b T) ++ [(q137, .inr (1, [.null, .int 0, .int 0, .int 0]))]) _ := hP
            have hD9 : va_D A ((wM G b T) ++ [(q137, .inr (1, [.null, .int 0, .int 0, .int 0]))]) := hD
            refine weI (wr := (wM G b T)) (wd := [(q137, .inr (1, [.null, .int 0, .int 0, .int 0]))]) (as := []) (rest := [.ref q137]) C (i_J4_init_da8c8 l G q137) F_J4_init_da8c8 rfl bw1511 bw780 rfl (hE.S hS hAB) hP9 hD9 hS hA hAB hl.1 dX2_betweenNow_141 ⟨Nat.le_of_ble_eq_true rfl, Nat.le_of_ble_eq_true rfl⟩ rfl (Nat.le_of_ble_eq_true rfl) ⟨Nat.le_of_ble_eq_true rfl, Nat.le_of_ble_eq_true rfl⟩ (fun r9 wd9 H locs hp9 hP hD hS => ?_)
            obtain ⟨rfl, v9_141, rfl⟩ := hp9
            have hP : va_P (gD G) vwCl ((wM G b T) ++ [(q137, .inr (1, [.ref v9_141, .int 0, .int 0, .int (nI 0)])), (v9_141, .inl (gC G 2, 16, .inl (fun _ => 0)))]) H := hP
            have hD : va_D A ((wM G b T) ++ [(q137, .inr (1, [.ref v9_141, .int 0, .int 0, .int (nI 0)])), (v9_141, .inl (gC G 2, 16, .inl (fun _ => 0)))]) := hD
            refine W.eq (g2 := F0 m 144 ls [.ref q137]) rfl ?_
            refine va_ldcS hx hb hown hE.1.2.2.2.2.1 dX2_betweenNow_144 ?_
            have hP9 : va_P (gD G) vwCl ((wM G b T) ++ [(q137, .inr (1, [.ref v9_141, .int 0, .int 0, .int (nI 0)])), (v9_141, .inl (gC G 2, 16, .inl (fun _ => 0)))]) _ := hP
            have hD9 : va_D A ((wM G b T) ++ [(q137, .inr (1, [.ref v9_141, .int 0, .int 0, .int (nI 0)])), (v9_141, .inl (gC G 2, 16, .inl (fun _ => 0)))]) := hD
            refine weVf (wr := (wM G b T)) (wd := [(q137, .inr (1, [.ref v9_141, .int 0, .int 0, .int (nI 0)])), (v9_141, .inl (gC G 2, 16, .inl (fun _ => 0)))]) (as := [.ref (ga G 6)]) (rest := []) (cl := RJ4) C (s_appS l G q137 v9_141 16 (fun _ => 0) (Or.inl rfl) sb_fit0) F_J4_append_15ec4 rfl bw1512 bw1014 (hw _ bw1015) (hE.S hS hAB) hP9 hD9 hS hA hAB (rv1 hE.K hP (q0 := 5) rfl) hl.1 dX2_betweenNow_146 ⟨Nat.le_of_ble_eq_true rfl, Nat.le_of_ble_eq_true rfl⟩ rfl (Nat.le_of_ble_eq_true rfl) ⟨Nat.le_of_ble_eq_true rfl, Nat.le_of_ble_eq_true rfl⟩ (fun r9 wd9 H locs hp9 hP hD hS => ?_)
            obtain ⟨rfl, v9_146, m9_146, f9_146, rfl, hm9_146, hle9_146, hf9_146⟩ := hp9
            have hP : va_P (gD G) vwCl ((wM G b T) ++ [(q137, .inr (1, [.ref v9_146, .int 0, .int 0, .int (nI 0)])), (v9_146, .inl (gC G 2, m9_146, .inl f9_146))]) H := hP
            have hD : va_D A ((wM G b T) ++ [(q137, .inr (1, [.ref v9_146, .int 0, .int 0, .int (nI 0)])), (v9_146, .inl (gC G 2, m9_146, .inl f9_146))]) := hD
            refine W.eq (g2 := F0 m 149 ls [.ref q137]) rfl ?_
            refine lv_lload hx hb dX2_betweenNow_149 (lv_at hl 0 rfl) ?_
            refine lv_iload_n hx hb dX2_betweenNow_151 rfl (lv_at hl 5 rfl) ?_
            refine rcSf (st1 := [.int (fX2_monthsOf p2), .long (-(fX2_monthsBack T p0 p1)), .ref q137]) (as := [.int p2]) (rest := [.long (-(fX2_monthsBack T p0 p1)), .ref q137]) C (c_X2_monthsOf l G p2) F_X2_monthsOf rfl bw1445 bw1446 (hE.S hS hAB) vpn hl.1 dX2_betweenNow_152 ⟨Nat.le_of_ble_eq_true rfl, Nat.le_of_ble_eq_true rfl⟩ rfl (Nat.le_of_ble_eq_true rfl) ⟨Nat.le_of_ble_eq_true rfl, Nat.le_of_ble_eq_true rfl⟩ rfl ?_
            refine lv_i2l (v := ((fX2_monthsOf p2).toInt64)) hx hb dX2_betweenNow_155 (by first | rfl | decide) ?_
            refine lv_ldiv hx hb dX2_betweenNow_156 (nz_monthsOf p2) ?_
            obtain ⟨k9_157, d9_157, hs9_157⟩ := SS_of ((-(fX2_monthsBack T p0 p1)) / ((fX2_monthsOf p2).toInt64))
            have hP9 : va_P (gD G) vwCl ((wM G b T) ++ [(q137, .inr (1, [.ref v9_146, .int 0, .int 0, .int (nI 0)])), (v9_146, .inl (gC G 2, m9_146, .inl f9_146))]) _ := hP
            have hD9 : va_D A ((wM G b T) ++ [(q137, .inr (1, [.ref v9_146, .int 0, .int 0, .int (nI 0)])), (v9_146, .inl (gC G 2, m9_146, .inl f9_146))]) := hD
            refine weVf (wr := (wM G b T)) (wd := [(q137, .inr (1, [.ref v9_146, .int 0, .int 0, .int (nI 0)])), (v9_146, .inl (gC G 2, m9_146, .inl f9_146))]) (as := [.long ((-(fX2_monthsBack T p0 p1)) / ((fX2_monthsOf p2).toInt64))]) (rest := []) (cl := RJ4) C (s_appL l G q137 v9_146 m9_146 k9_157 d9_157 f9_146 ((-(fX2_monthsBack T p0 p1)) / ((fX2_monthsOf p2).toInt64)) hm9_146 hf9_146.1 hs9_157) F_J4_append_f7089 rfl bw1513 bw1514 (hw _ bw1515) (hE.S hS hAB) hP9 hD9 hS hA hAB (rv1 hE.K hP (q0 := 5) rfl) hl.1 dX2_betweenNow_157 ⟨Nat.le_of_ble_eq_true rfl, Nat.le_of_ble_eq_true rfl⟩ rfl (Nat.le_of_ble_eq_true rfl) ⟨Nat.le_of_ble_eq_true rfl, Nat.le_of_ble_eq_true rfl⟩ (fun r9 wd9 H locs hp9 hP hD hS => ?_)
            obtain ⟨rfl, v9_157, m9_157, f9_157, rfl, hm9_157, hle9_157, hf9_157⟩ := hp9
            have hP : va_P (gD G) vwCl ((wM G b T) ++ [(q137, .inr (1, [.ref v9_157, .int 0, .int 0, .int (nI (k9_157 + d9_157))])), (v9_157, .inl (gC G 2, m9_157, .inl f9_157))]) H := hP
            have hD : va_D A ((wM G b T) ++ [(q137, .inr (1, [.ref v9_157, .int 0, .int 0, .int (nI (k9_157 + d9_157))])), (v9_157, .inl (gC G 2, m9_157, .inl f9_157))]) := hD
            refine W.eq (g2 := F0 m 160 ls [.ref q137]) rfl ?_
            have hP9 : va_P (gD G) vwCl ((wM G b T) ++ [(q137, .inr (1, [.ref v9_157, .int 0, .int 0, .int (nI (k9_157 + d9_157))])), (v9_157, .inl (gC G 2, m9_157, .inl f9_157))]) _ := hP
            have hD9 : va_D A ((wM G b T) ++ [(q137, .inr (1, [.ref v9_157, .int 0, .int 0, .int (nI (k9_157 + d9_157))])), (v9_157, .inl (gC G 2, m9_157, .inl f9_157))]) := hD
            refine weVf (wr := (wM G b T)) (wd := [(q137, .inr (1, [.ref v9_157, .int 0, .int 0, .int (nI (k9_157 + d9_157))])), (v9_157, .inl (gC G 2, m9_157, .inl f9_157))]) (as := []) (rest := []) (cl := RJ4) C (s_toString l G q137 v9_157 m9_157 (k9_157 + d9_157) (tT ((-(fX2_monthsBack T p0 p1)) / ((fX2_monthsOf p2).toInt64)).toInt.natAbs k9_157 d9_157) f9_157 (mOK.lt hm9_157) hle9_157 hf9_157) F_J4_toString_0e30d rfl bw1540 bw943 (hw _ bw944) (hE.S hS hAB) hP9 hD9 hS hA hAB (rv1 hE.K hP (q0 := 5) rfl) hl.1 dX2_betweenNow_160 ⟨Nat.le_of_ble_eq_true rfl, Nat.le_of_ble_eq_true rfl⟩ rfl (Nat.le_of_ble_eq_true rfl) ⟨Nat.le_of_ble_eq_true rfl, Nat.le_of_ble_eq_true rfl⟩ (fun r9 wd9 H locs hp9 hP hD hS => ?_)
            obtain ⟨q9_160, u9_160, f9_160, rfl, rfl, hx9_160⟩ := hp9
            have hP : va_P (gD G) vwCl ((wM G b T) ++ [(q9_160, .inr (0, [.ref u9_160, .int 0, .int 0, .int 0])), (u9_160, .inl (gC G 2, (k9_157 + d9_157), .inl f9_160))]) H := hP
            have hD : va_D A ((wM G b T) ++ [(q9_160, .inr (0, [.ref u9_160, .int 0, .int 0, .int 0])), (u9_160, .inl (gC G 2, (k9_157 + d9_157), .inl f9_160))]) := hD
            refine W.eq (g2 := F0 m 163 ls [.ref q9_160]) rfl ?_
            exact weA hx hb hr (Or.inl ⟨_, rfl⟩) hk ⟨q9_160, [(q9_160, .inr (0, [.ref u9_160, .int 0, .int 0, .int 0])), (u9_160, .inl (gC G 2, (k9_157 + d9_157), .inl f9_160))], rfl, (congrArg (fun z9 => wM G b z9 ++ [(q9_160, .inr (0, [.ref u9_160, .int 0, .int 0, .int 0])), (u9_160, .inl (gC G 2, (k9_157 + d9_157), .inl f9_160))]) (show gX2_betweenNow T p0 p1 p2 = T from (Eq.trans (if_neg c_1) (Eq.trans (if_neg c_2) (Eq.trans (if_neg c_3) (Eq.trans (if_pos c_4) (if_pos c_5)))))).symm), TXO.dig (show oX2_betweenNow T p0 p1 p2 = (some (some ((-(fX2_monthsBack T p0 p1)) / ((fX2_monthsOf p2).toInt64)))) from (Eq.trans (if_neg c_1) (Eq.trans (if_neg c_2) (Eq.trans (if_neg c_3) (Eq.trans (if_pos c_4) (if_pos c_5)))))) ⟨_, _, _, _, rfl, hs9_157, hx9_160⟩⟩ hP hD hS (Nat.le_of_ble_eq_true rfl) (Nat.le_of_ble_eq_true rfl) dX2_betweenNow_163
          · refine lv_aload_n hx hb dX2_betweenNow_119 rfl (lv_at hl 1 rfl) ?_
            refine lv_iload_n hx hb dX2_betweenNow_120 rfl (lv_at hl 2 rfl) ?_
            refine lv_iload_n hx hb dX2_betweenNow_121 rfl (lv_at hl 3 rfl) ?_
            refine rcVl (as := [.int p0, .int p1]) (rest := []) (cl := RX2) C (c_X2_monthsOn l G b T p0 p1 h0 h1) F_X2_monthsOn rfl bw1588 bw1590 bw51 (hE.S hS hAB) hP (rv4 hE.K hP (q0 := 0) rfl) hl.1 dX2_betweenNow_122 ⟨Nat.le_of_ble_eq_true rfl, Nat.le_of_ble_eq_true rfl⟩ rfl (Nat.le_of_ble_eq_true rfl) ⟨Nat.le_of_ble_eq_true rfl, Nat.le_of_ble_eq_true rfl⟩ ?_
            refine lv_goto (tgt := 135) hx hb dX2_betweenNow_125 (by decide) ?_
            refine lv_lstore (lv' := [(5, .long (fX2_monthsOn T p0 p1)), (4, .int (0 : Int32)), (0, .ref (b 0)), (1, .int p0), (2, .int p1), (3, .int p2)]) hx hb dX2_betweenNow_135 hl (Nat.le_of_ble_eq_true rfl) rfl (fun ls hl => ?_)
            refine va_new (cl := vwCl) (tys := gT G) (ci := 1) (fs := [.null, .int 0, .int 0, .int 0]) (C := RJ4) (T := TJ4) (N := 4) hx hb hw inB_J4 tyJ4 tyJ4_ok hown (hw _ bw1510) (hw _ bw778) (hw _ bw67) hE.K hP hD hS hA rfl (fun j hj => by rcases (show j = 0 ∨ j = 1 ∨ j = 2 ∨ j = 3 by omega) with rfl | rfl | rfl | rfl <;> rfl) (Nat.le_of_ble_eq_true rfl) (Nat.le_of_ble_eq_true rfl) dX2_betweenNow_137 (fun q137 H hP hD hS => ?_)
            have hP : va_P (gD G) vwCl ((wM G b T) ++ [(q137, .inr (1, [.null, .int 0, .int 0, .int 0]))]) H := hP
            have hD : va_D A ((wM G b T) ++ [(q137, .inr (1, [.null, .int 0, .int 0, .int 0]))]) := hD
            refine lv_dup hx hb dX2_betweenNow_140 rfl ?_
            have hP9 : va_P (gD G) vwCl ((wM G b T) ++ [(q137, .inr (1, [.null, .int 0, .int 0, .int 0]))]) _ := hP
            have hD9 : va_D A ((wM G b T) ++ [(q137, .inr (1, [.null, .int 0, .int 0, .int 0]))]) := hD
            refine weI (wr := (wM G b T)) (wd := [(q137, .inr (1, [.null, .int 0, .int 0, .int 0]))]) (as := []) (rest := [.ref q137]) C (i_J4_init_da8c8 l G q137) F_J4_init_da8c8 rfl bw1511 bw780 rfl (hE.S hS hAB) hP9 hD9 hS hA hAB hl.1 dX2_betweenNow_141 ⟨Nat.le_of_ble_eq_true rfl, Nat.le_of_ble_eq_true rfl⟩ rfl (Nat.le_of_ble_eq_true rfl) ⟨Nat.le_of_ble_eq_true rfl, Nat.le_of_ble_eq_true rfl⟩ (fun r9 wd9 H locs hp9 hP hD hS => ?_)
            obtain ⟨rfl, v9_141, rfl⟩ := hp9
            have hP : va_P (gD G) vwCl ((wM G b T) ++ [(q137, .inr (1, [.ref v9_141, .int 0, .int 0, .int (nI 0)])), (v9_141, .inl (gC G 2, 16, .inl (fun _ => 0)))]) H := hP
            have hD : va_D A ((wM G b T) ++ [(q137, .inr (1, [.ref v9_141, .int 0, .int 0, .int (nI 0)])), (v9_141, .inl (gC G 2, 16, .inl (fun _ => 0)))]) := hD
            refine W.eq (g2 := F0 m 144 ls [.ref q137]) rfl ?_
            refine va_ldcS hx hb hown hE.1.2.2.2.2.1 dX2_betweenNow_144 ?_
            have hP9 : va_P (gD G) vwCl ((wM G b T) ++ [(q137, .inr (1, [.ref v9_141, .int 0, .int 0, .int (nI 0)])), (v9_141, .inl (gC G 2, 16, .inl (fun _ => 0)))]) _ := hP
            have hD9 : va_D A ((wM G b T) ++ [(q137, .inr (1, [.ref v9_141, .int 0, .int 0, .int (nI 0)])), (v9_141, .inl (gC G 2, 16, .inl (fun _ => 0)))]) := hD
            refine weVf (wr := (wM G b T)) (wd := [(q137, .inr (1, [.ref v9_141, .int 0, .int 0, .int (nI 0)])), (v9_141, .inl (gC G 2, 16, .inl (fun _ => 0)))]) (as := [.ref (ga G 6)]) (rest := []) (cl := RJ4) C (s_appS l G q137 v9_141 16 (fun _ => 0) (Or.inl rfl) sb_fit0) F_J4_append_15ec4 rfl bw1512 bw1014 (hw _ bw1015) (hE.S hS hAB) hP9 hD9 hS hA hAB (rv1 hE.K hP (q0 := 5) rfl) hl.1 dX2_betweenNow_146 ⟨Nat.le_of_ble_eq_true rfl, Nat.le_of_ble_eq_true rfl⟩ rfl (Nat.le_of_ble_eq_true rfl) ⟨Nat.le_of_ble_eq_true rfl, Nat.le_of_ble_eq_true rfl⟩ (fun r9 wd9 H locs hp9 hP hD hS => ?_)
            obtain ⟨rfl, v9_146, m9_146, f9_146, rfl, hm9_146, hle9_146, hf9_146⟩ := hp9
            have hP : va_P (gD G) vwCl ((wM G b T) ++ [(q137, .inr (1, [.ref v9_146, .int 0, .int 0, .int (nI 0)])), (v9_146, .inl (gC G 2, m9_146, .inl f9_146))]) H := hP
            have hD : va_D A ((wM G b T) ++ [(q137, .inr (1, [.ref v9_146, .int 0, .int 0, .int (nI 0)])), (v9_146, .inl (gC G 2, m9_146, .inl f9_146))]) := hD
            refine W.eq (g2 := F0 m 149 ls [.ref q137]) rfl ?_
            refine lv_lload hx hb dX2_betweenNow_149 (lv_at hl 0 rfl) ?_
            refine lv_iload_n hx hb dX2_betweenNow_151 rfl (lv_at hl 5 rfl) ?_
            refine rcSf (st1 := [.int (fX2_monthsOf p2), .long (fX2_monthsOn T p0 p1), .ref q137]) (as := [.int p2]) (rest := [.long (fX2_monthsOn T p0 p1), .ref q137]) C (c_X2_monthsOf l G p2) F_X2_monthsOf rfl bw1445 bw1446 (hE.S hS hAB) vpn hl.1 dX2_betweenNow_152 ⟨Nat.le_of_ble_eq_true rfl, Nat.le_of_ble_eq_true rfl⟩ rfl (Nat.le_of_ble_eq_true rfl) ⟨Nat.le_of_ble_eq_true rfl, Nat.le_of_ble_eq_true rfl⟩ rfl ?_
            refine lv_i2l (v := ((fX2_monthsOf p2).toInt64)) hx hb dX2_betweenNow_155 (by first | rfl | decide) ?_
            refine lv_ldiv hx hb dX2_betweenNow_156 (nz_monthsOf p2) ?_
            obtain ⟨k9_157, d9_157, hs9_157⟩ := SS_of ((fX2_monthsOn T p0 p1) / ((fX2_monthsOf p2).toInt64))
            have hP9 : va_P (gD G) vwCl ((wM G b T) ++ [(q137, .inr (1, [.ref v9_146, .int 0, .int 0, .int (nI 0)])), (v9_146, .inl (gC G 2, m9_146, .inl f9_146))]) _ := hP
            have hD9 : va_D A ((wM G b T) ++ [(q137, .inr (1, [.ref v9_146, .int 0, .int 0, .int (nI 0)])), (v9_146, .inl (gC G 2, m9_146, .inl f9_146))]) := hD
            refine weVf (wr := (wM G b T)) (wd := [(q137, .inr (1, [.ref v9_146, .int 0, .int 0, .int (nI 0)])), (v9_146, .inl (gC G 2, m9_146, .inl f9_146))]) (as := [.long ((fX2_monthsOn T p0 p1) / ((fX2_monthsOf p2).toInt64))]) (rest := []) (cl := RJ4) C (s_appL l G q137 v9_146 m9_146 k9_157 d9_157 f9_146 ((fX2_monthsOn T p0 p1) / ((fX2_monthsOf p2).toInt64)) hm9_146 hf9_146.1 hs9_157) F_J4_append_f7089 rfl bw1513 bw1514 (hw _ bw1515) (hE.S hS hAB) hP9 hD9 hS hA hAB (rv1 hE.K hP (q0 := 5) rfl) hl.1 dX2_betweenNow_157 ⟨Nat.le_of_ble_eq_true rfl, Nat.le_of_ble_eq_true rfl⟩ rfl (Nat.le_of_ble_eq_true rfl) ⟨Nat.le_of_ble_eq_true rfl, Nat.le_of_ble_eq_true rfl⟩ (fun r9 wd9 H locs hp9 hP hD hS => ?_)
            obtain ⟨rfl, v9_157, m9_157, f9_157, rfl, hm9_157, hle9_157, hf9_157⟩ := hp9
            have hP : va_P (gD G) vwCl ((wM G b T) ++ [(q137, .inr (1, [.ref v9_157, .int 0, .int 0, .int (nI (k9_157 + d9_157))])), (v9_157, .inl (gC G 2, m9_157, .inl f9_157))]) H := hP
            have hD : va_D A ((wM G b T) ++ [(q137, .inr (1, [.ref v9_157, .int 0, .int 0, .int (nI (k9_157 + d9_157))])), (v9_157, .inl (gC G 2, m9_157, .inl f9_157))]) := hD
            refine W.eq (g2 := F0 m 160 ls [.ref q137]) rfl ?_
            have hP9 : va_P (gD G) vwCl ((wM G b T) ++ [(q137, .inr (1, [.ref v9_157, .int 0, .int 0, .int (nI (k9_157 + d9_157))])), (v9_157, .inl (gC G 2, m9_157, .inl f9_157))]) _ := hP
            have hD9 : va_D A ((wM G b T) ++ [(q137, .inr (1, [.ref v9_157, .int 0, .int 0, .int (nI (k9_157 + d9_157))])), (v9_157, .inl (gC G 2, m9_157, .inl f9_157))]) := hD
            refine weVf (wr := (wM G b T)) (wd := [(q137, .inr (1, [.ref v9_157, .int 0, .int 0, .int (nI (k9_157 + d9_157))])), (v9_157, .inl (gC G 2, m9_157, .inl f9_157))]) (as := []) (rest := []) (cl := RJ4) C (s_toString l G q137 v9_157 m9_157 (k9_157 + d9_157) (tT ((fX2_monthsOn T p0 p1) / ((fX2_monthsOf p2).toInt64)).toInt.natAbs k9_157 d9_157) f9_157 (mOK.lt hm9_157) hle9_157 hf9_157) F_J4_toString_0e30d rfl bw1540 bw943 (hw _ bw944) (hE.S hS hAB) hP9 hD9 hS hA hAB (rv1 hE.K hP (q0 := 5) rfl) hl.1 dX2_betweenNow_160 ⟨Nat.le_of_ble_eq_true rfl, Nat.le_of_ble_eq_true rfl⟩ rfl (Nat.le_of_ble_eq_true rfl) ⟨Nat.le_of_ble_eq_true rfl, Nat.le_of_ble_eq_true rfl⟩ (fun r9 wd9 H locs hp9 hP hD hS => ?_)
            obtain ⟨q9_160, u9_160, f9_160, rfl, rfl, hx9_160⟩ := hp9
            have hP : va_P (gD G) vwCl ((wM G b T) ++ [(q9_160, .inr (0, [.ref u9_160, .int 0, .int 0, .int 0])), (u9_160, .inl (gC G 2, (k9_157 + d9_157), .inl f9_160))]) H := hP
            have hD : va_D A ((wM G b T) ++ [(q9_160, .inr (0, [.ref u9_160, .int 0, .int 0, .int 0])), (u9_160, .inl (gC G 2, (k9_157 + d9_157), .inl f9_160))]) := hD
            refine W.eq (g2 := F0 m 163 ls [.ref q9_160]) rfl ?_
            exact weA hx hb hr (Or.inl ⟨_, rfl⟩) hk ⟨q9_160, [(q9_160, .inr (0, [.ref u9_160, .int 0, .int 0, .int 0])), (u9_160, .inl (gC G 2, (k9_157 + d9_157), .inl f9_160))], rfl, (congrArg (fun z9 => wM G b z9 ++ [(q9_160, .inr (0, [.ref u9_160, .int 0, .int 0, .int 0])), (u9_160, .inl (gC G 2, (k9_157 + d9_157), .inl f9_160))]) (show gX2_betweenNow T p0 p1 p2 = T from (Eq.trans (if_neg c_1) (Eq.trans (if_neg c_2) (Eq.trans (if_neg c_3) (Eq.trans (if_pos c_4) (if_neg c_5)))))).symm), TXO.dig (show oX2_betweenNow T p0 p1 p2 = (some (some ((fX2_monthsOn T p0 p1) / ((fX2_monthsOf p2).toInt64)))) from (Eq.trans (if_neg c_1) (Eq.trans (if_neg c_2) (Eq.trans (if_neg c_3) (Eq.trans (if_pos c_4) (if_neg c_5)))))) ⟨_, _, _, _, rfl, hs9_157, hx9_160⟩⟩ hP hD hS (Nat.le_of_ble_eq_true rfl) (Nat.le_of_ble_eq_true rfl) dX2_betweenNow_163
        · refine lv_aload_n hx hb dX2_betweenNow_65 rfl (lv_at hl 1 rfl) ?_
          refine lv_dup hx hb dX2_betweenNow_66 rfl ?_
          refine va_get (D := gD G) (cl := vwCl) (tys := gT G) (ci := 4) (v := .int (mi T 5)) (C := RX2) (T := TX2) (N := 12) hx hb hw inB_X2 hown hE.K hP 0 rfl rfl 10 (by decide) (hw _ bw1173) (fun _ h9 => h9) rfl dX2_betweenNow_67 ?_
          refine lv_iconst (v := (1 : Int32)) hx hb dX2_betweenNow_70 qi_1 ?_
          refine lv_iadd hx hb dX2_betweenNow_71 ?_
          refine va_put (D := gD G) (cl := vwCl) (tys := gT G) (ci := 4) (v := .int ((mi T 5) + (1 : Int32))) (ty := .int) (C := RX2) (T := TX2) (N := 12) hx hb hw inB_X2 tyX2 tyX2_ok nmX2 hown hE.K hP hD hS 0 rfl rfl 10 (by decide) (hw _ bw1173) (fun _ h9 => h9) rfl (by decide +kernel) rfl rfl (Nat.le_of_ble_eq_true rfl) dX2_betweenNow_72 (fun H locs hP hD hS => ?_)
          have hP : va_P (gD G) vwCl (wM G b ((mth T), (my T), (mm T), (md T), (mt T), (upd (T.2.2.2.2.2) 5 ((mi T 5) + (1 : Int32))))) H := hP
          have hD : va_D A (wM G b ((mth T), (my T), (mm T), (md T), (mt T), (upd (T.2.2.2.2.2) 5 ((mi T 5) + (1 : Int32))))) := hD
          refine va_ldcS hx hb hown hE.1.2.2.2.2.2.1 dX2_betweenNow_75 ?_
          exact weA hx hb hr (Or.inl ⟨_, rfl⟩) hk ⟨_, [], rfl, (congrArg (fun z9 => wM G b z9 ++ []) (show gX2_betweenNow T p0 p1 p2 = ((mth T), (my T), (mm T), (md T), (mt T), (upd (T.2.2.2.2.2) 5 ((mi T 5) + (1 : Int32)))) from (Eq.trans (if_neg c_1) (Eq.trans (if_neg c_2) (Eq.trans (if_neg c_3) (if_neg c_4))))).symm), TXO.bang (show oX2_betweenNow T p0 p1 p2 = (some none) from (Eq.trans (if_neg c_1) (Eq.trans (if_neg c_2) (Eq.trans (if_neg c_3) (if_neg c_4)))))⟩ (P_nil hP) (D_nil hD) hS (Nat.le_of_ble_eq_true rfl) (Nat.le_of_ble_eq_true rfl) dX2_betweenNow_77
  · refine lv_aload_n hx hb dX2_betweenNow_4 rfl (lv_at hl 0 rfl) ?_
    refine lv_iload_n hx hb dX2_betweenNow_5 rfl (lv_at hl 1 rfl) ?_
    refine rcVl (as := [.int p0]) (rest := []) (cl := RX2) C (c_X2_dayNow l G b T p0 h0 hT) F_X2_dayNow rfl bw1247 bw1249 bw38 (hE.S hS hAB) hP (rv4 hE.K hP (q0 := 0) rfl) hl.1 dX2_betweenNow_6 ⟨Nat.le_of_ble_eq_true rfl, Nat.le_of_ble_eq_true rfl⟩ rfl (Nat.le_of_ble_eq_true rfl) ⟨Nat.le_of_ble_eq_true rfl, Nat.le_of_ble_eq_true rfl⟩ ?_
    refine lv_aload_n hx hb dX2_betweenNow_9 rfl (lv_at hl 0 rfl) ?_
    refine lv_iload_n hx hb dX2_betweenNow_10 rfl (lv_at hl 2 rfl) ?_
    refine rcVl (as := [.int p1]) (rest := [.long (fX2_dayNow T p0)]) (cl := RX2) C (c_X2_dayNow l G b T p1 h1 hT) F_X2_dayNow rfl bw1247 bw1249 bw38 (hE.S hS hAB) hP (rv4 hE.K hP (q0 := 0) rfl) hl.1 dX2_betweenNow_11 ⟨Nat.le_of_ble_eq_true rfl, Nat.le_of_ble_eq_true rfl⟩ rfl (Nat.le_of_ble_eq_true rfl) ⟨Nat.le_of_ble_eq_true rfl, Nat.le_of_ble_eq_true rfl⟩ ?_
    refine lv_lsub hx hb dX2_betweenNow_14 ?_
    refine rcSl (as := [.long ((fX2_dayNow T p0) - (fX2_dayNow T p1))]) (rest := []) C (c_J9_abs_067f4 l G ((fX2_dayNow T p0) - (fX2_dayNow T p1))) F_J9_abs_067f4 rfl bw1581 bw810 (hE.S hS hAB) vpn hl.1 dX2_betweenNow_15 ⟨Nat.le_of_ble_eq_true rfl, Nat.le_of_ble_eq_true rfl⟩ rfl (Nat.le_of_ble_eq_true rfl) ⟨Nat.le_of_ble_eq_true rfl, Nat.le_of_ble_eq_true rfl⟩ ?_
    refine lv_ldc2 (v := (100000 : Int64)) hx hb hown (hw _ bw1582) dX2_betweenNow_18 ?_
    refine W.lcmp hx hb dX2_betweenNow_21 ?_
    refine k_dia (b := (lg_cmp (fJ9_abs_067f4 ((fX2_dayNow T p0) - (fX2_dayNow T p1))) (100000 : Int64)) ≤ 0) (x := (0 : Int32)) (y := (1 : Int32)) (Wg := fun z9 => W _ _ _ _ _ _ _ _ _ _ _ _ _ _ _ (F0 m 30 ls (.int z9 :: _))) ?_ (fun t9 f9 => lv_if_le (tgt := 29) hx hb dX2_betweenNow_22 (by decide) (fun c_x => lv_iconst (v := (0 : Int32)) hx hb dX2_betweenNow_29 qi_0 (t9 c_x)) (fun c_x => lv_iconst (v := (1 : Int32)) hx hb dX2_betweenNow_25 qi_1 (lv_goto (tgt := 30) hx hb dX2_betweenNow_26 (by decide) (f9 c_x))))
    refine lv_istore (lv' := [(4, .int (if (lg_cmp (fJ9_abs_067f4 ((fX2_dayNow T p0) - (fX2_dayNow T p1))) (100000 : Int64)) ≤ 0 then (0 : Int32) else (1 : Int32))), (0, .ref (b 0)), (1, .int p0), (2, .int p1), (3, .int p2)]) hx hb dX2_betweenNow_30 hl (Nat.le_of_ble_eq_true rfl) rfl (fun ls hl => ?_)
    refine lv_iload hx hb dX2_betweenNow_32 (lv_at hl 0 rfl) ?_
    refine lv_if_ne (tgt := 65) hx hb dX2_betweenNow_34 (by decide) (fun c_6 => ?_) (fun c_6 => ?_)
    · refine lv_aload_n hx hb dX2_betweenNow_65 rfl (lv_at hl 1 rfl) ?_
      refine lv_dup hx hb dX2_betweenNow_66 rfl ?_
      refine va_get (D := gD G) (cl := vwCl) (tys := gT G) (ci := 4) (v := .int (mi T 5)) (C := RX2) (T := TX2) (N := 12) hx hb hw inB_X2 hown hE.K hP 0 rfl rfl 10 (by decide) (hw _ bw1173) (fun _ h9 => h9) rfl dX2_betweenNow_67 ?_
      refine lv_iconst (v := (1 : Int32)) hx hb dX2_betweenNow_70 qi_1 ?_
      refine lv_iadd hx hb dX2_betweenNow_71 ?_
      refine va_put (D := gD G) (cl := vwCl) (tys := gT G) (ci := 4) (v := .int ((mi T 5) + (1 : Int32))) (ty := .int) (C := RX2) (T := TX2) (N := 12) hx hb hw inB_X2 tyX2 tyX2_ok nmX2 hown hE.K hP hD hS 0 rfl rfl 10 (by decide) (hw _ bw1173) (fun _ h9 => h9) rfl (by decide +kernel) rfl rfl (Nat.le_of_ble_eq_true rfl) dX2_betweenNow_72 (fun H locs hP hD hS => ?_)
      have hP : va_P (gD G) vwCl (wM G b ((mth T), (my T), (mm T), (md T), (mt T), (upd (T.2.2.2.2.2) 5 ((mi T 5) + (1 : Int32))))) H := hP
      have hD : va_D A (wM G b ((mth T), (my T), (mm T), (md T), (mt T), (upd (T.2.2.2.2.2) 5 ((mi T 5) + (1 : Int32))))) := hD
      refine va_ldcS hx hb hown hE.1.2.2.2.2.2.1 dX2_betweenNow_75 ?_
      exact weA hx hb hr (Or.inl ⟨_, rfl⟩) hk ⟨_, [], rfl, (congrArg (fun z9 => wM G b z9 ++ []) (show gX2_betweenNow T p0 p1 p2 = ((mth T), (my T), (mm T), (md T), (mt T), (upd (T.2.2.2.2.2) 5 ((mi T 5) + (1 : Int32)))) from (Eq.trans (if_pos c_1) (if_neg c_6))).symm), TXO.bang (show oX2_betweenNow T p0 p1 p2 = (some none) from (Eq.trans (if_pos c_1) (if_neg c_6)))⟩ (P_nil hP) (D_nil hD) hS (Nat.le_of_ble_eq_true rfl) (Nat.le_of_ble_eq_true rfl) dX2_betweenNow_77
    · refine lv_iload_n hx hb dX2_betweenNow_37 rfl (lv_at hl 4 rfl) ?_
      refine lv_bipush (v := (8 : Int32)) hx hb dX2_betweenNow_38 qb_8 ?_
      refine lv_icmp_le (tgt := 78) hx hb dX2_betweenNow_40 (by decide) (fun _ => ?_) (fun c_x => absurd (by rw [c_1]; decide) c_x)
      refine lv_iload_n hx hb dX2_betweenNow_78 rfl (lv_at hl 4 rfl) ?_
      refine lv_bipush (v := (9 : Int32)) hx hb dX2_betweenNow_79 qb_9 ?_
      refine lv_icmp_ge (tgt := 110) hx hb dX2_betweenNow_81 (by decide) (fun c_x => absurd c_x (by rw [c_1]; decide)) (fun _ => ?_)
      refine va_new (cl := vwCl) (tys := gT G) (ci := 1) (fs := [.null, .int 0, .int 0, .int 0]) (C := RJ4) (T := TJ4) (N := 4) hx hb hw inB_J4 tyJ4 tyJ4_ok hown (hw _ bw1510) (hw _ bw778) (hw _ bw67) hE.K hP hD hS hA rfl (fun j hj => by rcases (show j = 0 ∨ j = 1 ∨ j = 2 ∨ j = 3 by omega) with rfl | rfl | rfl | rfl <;> rfl) (Nat.le_of_ble_eq_true rfl) (Nat.le_of_ble_eq_true rfl) dX2_betweenNow_84 (fun q84 H hP hD hS => ?_)
      have hP : va_P (gD G) vwCl ((wM G b T) ++ [(q84, .inr (1, [.null, .int 0, .int 0, .int 0]))]) H := hP
      have hD : va_D A ((wM G b T) ++ [(q84, .inr (1, [.null, .int 0, .int 0, .int 0]))]) := hD
      refine lv_dup hx hb dX2_betweenNow_87 rfl ?_
      have hP9 : va_P (gD G) vwCl ((wM G b T) ++ [(q84, .inr (1, [.null, .int 0, .int 0, .int 0]))]) _ := hP
      have hD9 : va_D A ((wM G b T) ++ [(q84, .inr (1, [.null, .int 0, .int 0, .int 0]))]) := hD
      refine weI (wr := (wM G b T)) (wd := [(q84, .inr (1, [.null, .int 0, .int 0, .int 0]))]) (as := []) (rest := [.ref q84]) C (i_J4_init_da8c8 l G q84) F_J4_init_da8c8 rfl bw1511 bw780 rfl (hE.S hS hAB) hP9 hD9 hS hA hAB hl.1 dX2_betweenNow_88 ⟨Nat.le_of_ble_eq_true rfl, Nat.le_of_ble_eq_true rfl⟩ rfl (Nat.le_of_ble_eq_true rfl) ⟨Nat.le_of_ble_eq_true rfl, Nat.le_of_ble_eq_true rfl⟩ (fun r9 wd9 H locs hp9 hP hD hS => ?_)
      obtain ⟨rfl, v9_88, rfl⟩ := hp9
      have hP : va_P (gD G) vwCl ((wM G b T) ++ [(q84, .inr (1, [.ref v9_88, .int 0, .int 0, .int (nI 0)])), (v9_88, .inl (gC G 2, 16, .inl (fun _ => 0)))]) H := hP
      have hD : va_D A ((wM G b T) ++ [(q84, .inr (1, [.ref v9_88, .int 0, .int 0, .int (nI 0)])), (v9_88, .inl (gC G 2, 16, .inl (fun _ => 0)))]) := hD
      refine W.eq (g2 := F0 m 91 ls [.ref q84]) rfl ?_
      refine va_ldcS hx hb hown hE.1.2.2.2.2.1 dX2_betweenNow_91 ?_
      have hP9 : va_P (gD G) vwCl ((wM G b T) ++ [(q84, .inr (1, [.ref v9_88, .int 0, .int 0, .int (nI 0)])), (v9_88, .inl (gC G 2, 16, .inl (fun _ => 0)))]) _ := hP
      have hD9 : va_D A ((wM G b T) ++ [(q84, .inr (1, [.ref v9_88, .int 0, .int 0, .int (nI 0)])), (v9_88, .inl (gC G 2, 16, .inl (fun _ => 0)))]) := hD
      refine weVf (wr := (wM G b T)) (wd := [(q84, .inr (1, [.ref v9_88, .int 0, .int 0, .int (nI 0)])), (v9_88, .inl (gC G 2, 16, .inl (fun _ => 0)))]) (as := [.ref (ga G 6)]) (rest := []) (cl := RJ4) C (s_appS l G q84 v9_88 16 (fun _ => 0) (Or.inl rfl) sb_fit0) F_J4_append_15ec4 rfl bw1512 bw1014 (hw _ bw1015) (hE.S hS hAB) hP9 hD9 hS hA hAB (rv1 hE.K hP (q0 := 5) rfl) hl.1 dX2_betweenNow_93 ⟨Nat.le_of_ble_eq_true rfl, Nat.le_of_ble_eq_true rfl⟩ rfl (Nat.le_of_ble_eq_true rfl) ⟨Nat.le_of_ble_eq_true rfl, Nat.le_of_ble_eq_true rfl⟩ (fun r9 wd9 H locs hp9 hP hD hS => ?_)
      obtain ⟨rfl, v9_93, m9_93, f9_93, rfl, hm9_93, hle9_93, hf9_93⟩ := hp9
      have hP : va_P (gD G) vwCl ((wM G b T) ++ [(q84, .inr (1, [.ref v9_93, .int 0, .int 0, .int (nI 0)])), (v9_93, .inl (gC G 2, m9_93, .inl f9_93))]) H := hP
      have hD : va_D A ((wM G b T) ++ [(q84, .inr (1, [.ref v9_93, .int 0, .int 0, .int (nI 0)])), (v9_93, .inl (gC G 2, m9_93, .inl f9_93))]) := hD
      refine W.eq (g2 := F0 m 96 ls [.ref q84]) rfl ?_
      refine lv_aload_n hx hb dX2_betweenNow_96 rfl (lv_at hl 1 rfl) ?_
      refine lv_iload_n hx hb dX2_betweenNow_97 rfl (lv_at hl 2 rfl) ?_
      refine lv_iload_n hx hb dX2_betweenNow_98 rfl (lv_at hl 3 rfl) ?_
      refine lv_iload_n hx hb dX2_betweenNow_99 rfl (lv_at hl 4 rfl) ?_
      refine rcVf (st1 := [.long (fX2_lineBetween T p0 p1 p2), .ref q84]) (as := [.int p0, .int p1, .int p2]) (rest := [.ref q84]) (cl := RX2) C (c_X2_lineBetween l G b T p0 p1 p2 h0 h1 hT) F_X2_lineBetween rfl bw1584 bw1586 (hw _ bw50) (hE.S hS hAB) (show va_P (gD G) vwCl (wM G b T) _ from hP.sub [0, 1, 2, 3, 4] rfl) (rv4 hE.K hP (q0 := 0) rfl) hl.1 dX2_betweenNow_100 ⟨Nat.le_of_ble_eq_true rfl, Nat.le_of_ble_eq_true rfl⟩ rfl (Nat.le_of_ble_eq_true rfl) ⟨Nat.le_of_ble_eq_true rfl, Nat.le_of_ble_eq_true rfl⟩ rfl ?_
      obtain ⟨k9_103, d9_103, hs9_103⟩ := SS_of (fX2_lineBetween T p0 p1 p2)
      have hP9 : va_P (gD G) vwCl ((wM G b T) ++ [(q84, .inr (1, [.ref v9_93, .int 0, .int 0, .int (nI 0)])), (v9_93, .inl (gC G 2, m9_93, .inl f9_93))]) _ := hP
      have hD9 : va_D A ((wM G b T) ++ [(q84, .inr (1, [.ref v9_93, .int 0, .int 0, .int (nI 0)])), (v9_93, .inl (gC G 2, m9_93, .inl f9_93))]) := hD
      refine weVf (wr := (wM G b T)) (wd := [(q84, .inr (1, [.ref v9_93, .int 0, .int 0, .int (nI 0)])), (v9_93, .inl (gC G 2, m9_93, .inl f9_93))]) (as := [.long (fX2_lineBetween T p0 p1 p2)]) (rest := []) (cl := RJ4) C (s_appL l G q84 v9_93 m9_93 k9_103 d9_103 f9_93 (fX2_lineBetween T p0 p1 p2) hm9_93 hf9_93.1 hs9_103) F_J4_append_f7089 rfl bw1513 bw1514 (hw _ bw1515) (hE.S hS hAB) hP9 hD9 hS hA hAB (rv1 hE.K hP (q0 := 5) rfl) hl.1 dX2_betweenNow_103 ⟨Nat.le_of_ble_eq_true rfl, Nat.le_of_ble_eq_true rfl⟩ rfl (Nat.le_of_ble_eq_true rfl) ⟨Nat.le_of_ble_eq_true rfl, Nat.le_of_ble_eq_true rfl⟩ (fun r9 wd9 H locs hp9 hP hD hS => ?_)
      obtain ⟨rfl, v9_103, m9_103, f9_103, rfl, hm9_103, hle9_103, hf9_103⟩ := hp9
      have hP : va_P (gD G) vwCl ((wM G b T) ++ [(q84, .inr (1, [.ref v9_103, .int 0, .int 0, .int (nI (k9_103 + d9_103))])), (v9_103, .inl (gC G 2, m9_103, .inl f9_103))]) H := hP
      have hD : va_D A ((wM G b T) ++ [(q84, .inr (1, [.ref v9_103, .int 0, .int 0, .int (nI (k9_103 + d9_103))])), (v9_103, .inl (gC G 2, m9_103, .inl f9_103))]) := hD
      refine W.eq (g2 := F0 m 106 ls [.ref q84]) rfl ?_
      have hP9 : va_P (gD G) vwCl ((wM G b T) ++ [(q84, .inr (1, [.ref v9_103, .int 0, .int 0, .int (nI (k9_103 + d9_103))])), (v9_103, .inl (gC G 2, m9_103, .inl f9_103))]) _ := hP
      have hD9 : va_D A ((wM G b T) ++ [(q84, .inr (1, [.ref v9_103, .int 0, .int 0, .int (nI (k9_103 + d9_103))])), (v9_103, .inl (gC G 2, m9_103, .inl f9_103))]) := hD
      refine weVf (wr := (wM G b T)) (wd := [(q84, .inr (1, [.ref v9_103, .int 0, .int 0, .int (nI (k9_103 + d9_103))])), (v9_103, .inl (gC G 2, m9_103, .inl f9_103))]) (as := []) (rest := []) (cl := RJ4) C (s_toString l G q84 v9_103 m9_103 (k9_103 + d9_103) (tT (fX2_lineBetween T p0 p1 p2).toInt.natAbs k9_103 d9_103) f9_103 (mOK.lt hm9_103) hle9_103 hf9_103) F_J4_toString_0e30d rfl bw1540 bw943 (hw _ bw944) (hE.S hS hAB) hP9 hD9 hS hA hAB (rv1 hE.K hP (q0 := 5) rfl) hl.1 dX2_betweenNow_106 ⟨Nat.le_of_ble_eq_true rfl, Nat.le_of_ble_eq_true rfl⟩ rfl (Nat.le_of_ble_eq_true rfl) ⟨Nat.le_of_ble_eq_true rfl, Nat.le_of_ble_eq_true rfl⟩ (fun r9 wd9 H locs hp9 hP hD hS => ?_)
      obtain ⟨q9_106, u9_106, f9_106, rfl, rfl, hx9_106⟩ := hp9
      have hP : va_P (gD G) vwCl ((wM G b T) ++ [(q9_106, .inr (0, [.ref u9_106, .int 0, .int 0, .int 0])), (u9_106, .inl (gC G 2, (k9_103 + d9_103), .inl f9_106))]) H := hP
      have hD : va_D A ((wM G b T) ++ [(q9_106, .inr (0, [.ref u9_106, .int 0, .int 0, .int 0])), (u9_106, .inl (gC G 2, (k9_103 + d9_103), .inl f9_106))]) := hD
      refine W.eq (g2 := F0 m 109 ls [.ref q9_106]) rfl ?_
      exact weA hx hb hr (Or.inl ⟨_, rfl⟩) hk ⟨q9_106, [(q9_106, .inr (0, [.ref u9_106, .int 0, .int 0, .int 0])), (u9_106, .inl (gC G 2, (k9_103 + d9_103), .inl f9_106))], rfl, (congrArg (fun z9 => wM G b z9 ++ [(q9_106, .inr (0, [.ref u9_106, .int 0, .int 0, .int 0])), (u9_106, .inl (gC G 2, (k9_103 + d9_103), .inl f9_106))]) (show gX2_betweenNow T p0 p1 p2 = T from (Eq.trans (if_pos c_1) (if_pos c_6))).symm), TXO.dig (show oX2_betweenNow T p0 p1 p2 = (some (some (fX2_lineBetween T p0 p1 p2))) from (Eq.trans (if_pos c_1) (if_pos c_6))) ⟨_, _, _, _, rfl, hs9_103, hx9_106⟩⟩ hP hD hS (Nat.le_of_ble_eq_true rfl) (Nat.le_of_ble_eq_true rfl) dX2_betweenNow_109

set_option maxRecDepth 100000 in
set_option maxHeartbeats 4000000 in
theorem u_between (l : Launch) (G : GT) (b : Nat → Nat) (T : SM) (p0 : Int32) (p1 : Int32) (p2 : Int32) (hT : MO T) : WE l G yX2_between cX2_between 4 (some (.object "java/lang/String")) 10 6 160 [.ref (b 0), .int p0, .int p1, .int p2] (wM G b T) (fun r wd => ∃ (q : Nat) (ws : va_W), r = some (.ref q) ∧ wd = wM G b (gX2_between T p0 p1 p2) ++ ws ∧ TXO G q (oX2_between T p0 p1 p2) ws) := by
  refine WE.ofW (own := RX2) rfl (plainFor_of_name pnN_RX2) (Nat.le_of_ble_eq_true rfl) ?_
  intro p e s m below meth c A C hr hk hnm hE hP hD hA hAB hS ls hl
  have hx := C.1
  have hb := C.2.1
  have hml := C.2.2.1
  have hown := C.2.2.2.1
  have hw := C.2.2.2.2
  have hl : lv_has ls 4 [(0, .ref (b 0)), (1, .int p0), (2, .int p1), (3, .int p2)] := hl
  refine lv_aload_n hx hb dX2_between_0 rfl (lv_at hl 0 rfl) ?_
  refine lv_iload_n hx hb dX2_between_1 rfl (lv_at hl 1 rfl) ?_
  refine rcSi (as := [.int p0]) (rest := [.ref (b 0)]) C (c_X2_isNone l G p0) F_X2_isNone rfl bw1216 bw1217 (hE.S hS hAB) vpn hl.1 dX2_between_2 ⟨Nat.le_of_ble_eq_true rfl, Nat.le_of_ble_eq_true rfl⟩ rfl (Nat.le_of_ble_eq_true rfl) ⟨Nat.le_of_ble_eq_true rfl, Nat.le_of_ble_eq_true rfl⟩ ?_
  refine lv_if_ne (tgt := 15) hx hb dX2_between_5 (by decide) (fun c_1 => ?_) (fun c_1 => ?_)
  · refine lv_iconst (v := (1 : Int32)) hx hb dX2_between_15 qi_1 ?_
    refine lv_goto (tgt := 20) hx hb dX2_between_16 (by decide) ?_
    refine lv_iconst (v := (0 : Int32)) hx hb dX2_between_20 qi_0 ?_
    refine lv_bipush (v := (13 : Int32)) hx hb dX2_between_21 qb_13 ?_
    refine lv_iload_n hx hb dX2_between_23 rfl (lv_at hl 3 rfl) ?_
    refine rcSi (as := [.int (0 : Int32), .int (13 : Int32), .int p2]) (rest := [.int (1 : Int32), .ref (b 0)]) C (c_X2_isFrom l G (0 : Int32) (13 : Int32) p2) F_X2_isFrom rfl bw1208 bw1209 (hE.S hS hAB) vpn hl.1 dX2_between_24 ⟨Nat.le_of_ble_eq_true rfl, Nat.le_of_ble_eq_true rfl⟩ rfl (Nat.le_of_ble_eq_true rfl) ⟨Nat.le_of_ble_eq_true rfl, Nat.le_of_ble_eq_true rfl⟩ ?_
    refine k_dia (b := (fX2_isFrom (0 : Int32) (13 : Int32) p2) = 0) (x := (1 : Int32)) (y := (0 : Int32)) (Wg := fun z9 => W _ _ _ _ _ _ _ _ _ _ _ _ _ _ _ (F0 m 35 ls (.int z9 :: _))) ?_ (fun t9 f9 => lv_if_ne (tgt := 34) hx hb dX2_between_27 (by decide) (fun c_x => lv_iconst (v := (0 : Int32)) hx hb dX2_between_34 qi_0 (f9 c_x)) (fun c_x => lv_iconst (v := (1 : Int32)) hx hb dX2_between_30 qi_1 (lv_goto (tgt := 35) hx hb dX2_between_31 (by decide) (t9 c_x))))
    refine wcVi (as := [.int (1 : Int32), .int (if (fX2_isFrom (0 : Int32) (13 : Int32) p2) = 0 then (1 : Int32) else (0 : Int32))]) (rest := []) (cl := RX2) C (c_X2_refuses l G b T (1 : Int32) (if (fX2_isFrom (0 : Int32) (13 : Int32) p2) = 0 then (1 : Int32) else (0 : Int32))) F_X2_refuses rfl bw1219 bw1221 bw33 (hE.S hS hAB) hP hD hS hA hAB (rv4 hE.K hP (q0 := 0) rfl) hl.1 dX2_between_35 ⟨Nat.le_of_ble_eq_true rfl, Nat.le_of_ble_eq_true rfl⟩ rfl (Nat.le_of_ble_eq_true rfl) ⟨Nat.le_of_ble_eq_true rfl, Nat.le_of_ble_eq_true rfl⟩ (fun H locs hP hD hS => ?_)
    have hP : va_P (gD G) vwCl (wM G b ((fth (1 : Int32) (if (fX2_isFrom (0 : Int32) (13 : Int32) p2) = 0 then (1 : Int32) else (0 : Int32))), (my T), (mm T), (md T), (mt T), (T.2.2.2.2.2))) H := hP
    have hD : va_D A (wM G b ((fth (1 : Int32) (if (fX2_isFrom (0 : Int32) (13 : Int32) p2) = 0 then (1 : Int32) else (0 : Int32))), (my T), (mm T), (md T), (mt T), (T.2.2.2.2.2))) := hD
    refine lv_if_eq (tgt := 46) hx hb dX2_between_38 (by decide) (fun c_x => absurd c_x (frf_l1 (if (fX2_isFrom (0 : Int32) (13 : Int32) p2) = 0 then (1 : Int32) else (0 : Int32)))) (fun _ => ?_)
    refine va_ldcS hx hb hown hE.1.2.2.2.2.1 dX2_between_41 ?_
    refine lv_goto (tgt := 53) hx hb dX2_between_43 (by decide) ?_
    exact weA hx hb hr (Or.inl ⟨_, rfl⟩) hk ⟨_, [], rfl, (congrArg (fun z9 => wM G b z9 ++ []) (show gX2_between T p0 p1 p2 = ((fth (1 : Int32) (if (fX2_isFrom (0 : Int32) (13 : Int32) p2) = 0 then (1 : Int32) else (0 : Int32))), (my T), (mm T), (md T), (mt T), (T.2.2.2.2.2)) from (if_neg c_1)).symm), TXO.no (show oX2_between T p0 p1 p2 = none from (if_neg c_1))⟩ (P_nil hP) (D_nil hD) hS (Nat.le_of_ble_eq_true rfl) (Nat.le_of_ble_eq_true rfl) dX2_between_53
  · refine lv_iload_n hx hb dX2_between_8 rfl (lv_at hl 2 rfl) ?_
    refine rcSi (as := [.int p1]) (rest := [.ref (b 0)]) C (c_X2_isNone l G p1) F_X2_isNone rfl bw1216 bw1217 (hE.S hS hAB) vpn hl.1 dX2_between_9 ⟨Nat.le_of_ble_eq_true rfl, Nat.le_of_ble_eq_true rfl⟩ rfl (Nat.le_of_ble_eq_true rfl) ⟨Nat.le_of_ble_eq_true rfl, Nat.le_of_ble_eq_true rfl⟩ ?_
    refine k_dia (b := (fX2_isNone p1) = 0) (x := (0 : Int32)) (y := (1 : Int32)) (Wg := fun z9 => W _ _ _ _ _ _ _ _ _ _ _ _ _ _ _ (F0 m 20 ls (.int z9 :: _))) ?_ (fun t9 f9 => lv_if_eq (tgt := 19) hx hb dX2_between_12 (by decide) (fun c_x => lv_iconst (v := (0 : Int32)) hx hb dX2_between_19 qi_0 (t9 c_x)) (fun c_x => lv_iconst (v := (1 : Int32)) hx hb dX2_between_15 qi_1 (lv_goto (tgt := 20) hx hb dX2_between_16 (by decide) (f9 c_x))))
    refine lv_iconst (v := (0 : Int32)) hx hb dX2_between_20 qi_0 ?_
    refine lv_bipush (v := (13 : Int32)) hx hb dX2_between_21 qb_13 ?_
    refine lv_iload_n hx hb dX2_between_23 rfl (lv_at hl 3 rfl) ?_
    refine rcSi (as := [.int (0 : Int32), .int (13 : Int32), .int p2]) (rest := [.int (if (fX2_isNone p1) = 0 then (0 : Int32) else (1 : Int32)), .ref (b 0)]) C (c_X2_isFrom l G (0 : Int32) (13 : Int32) p2) F_X2_isFrom rfl bw1208 bw1209 (hE.S hS hAB) vpn hl.1 dX2_between_24 ⟨Nat.le_of_ble_eq_true rfl, Nat.le_of_ble_eq_true rfl⟩ rfl (Nat.le_of_ble_eq_true rfl) ⟨Nat.le_of_ble_eq_true rfl, Nat.le_of_ble_eq_true rfl⟩ ?_
    refine k_dia (b := (fX2_isFrom (0 : Int32) (13 : Int32) p2) = 0) (x := (1 : Int32)) (y := (0 : Int32)) (Wg := fun z9 => W _ _ _ _ _ _ _ _ _ _ _ _ _ _ _ (F0 m 35 ls (.int z9 :: _))) ?_ (fun t9 f9 => lv_if_ne (tgt := 34) hx hb dX2_between_27 (by decide) (fun c_x => lv_iconst (v := (0 : Int32)) hx hb dX2_between_34 qi_0 (f9 c_x)) (fun c_x => lv_iconst (v := (1 : Int32)) hx hb dX2_between_30 qi_1 (lv_goto (tgt := 35) hx hb dX2_between_31 (by decide) (t9 c_x))))
    refine wcVi (as := [.int (if (fX2_isNone p1) = 0 then (0 : Int32) else (1 : Int32)), .int (if (fX2_isFrom (0 : Int32) (13 : Int32) p2) = 0 then (1 : Int32) else (0 : Int32))]) (rest := []) (cl := RX2) C (c_X2_refuses l G b T (if (fX2_isNone p1) = 0 then (0 : Int32) else (1 : Int32)) (if (fX2_isFrom (0 : Int32) (13 : Int32) p2) = 0 then (1 : Int32) else (0 : Int32))) F_X2_refuses rfl bw1219 bw1221 bw33 (hE.S hS hAB) hP hD hS hA hAB (rv4 hE.K hP (q0 := 0) rfl) hl.1 dX2_between_35 ⟨Nat.le_of_ble_eq_true rfl, Nat.le_of_ble_eq_true rfl⟩ rfl (Nat.le_of_ble_eq_true rfl) ⟨Nat.le_of_ble_eq_true rfl, Nat.le_of_ble_eq_true rfl⟩ (fun H locs hP hD hS => ?_)
    have hP : va_P (gD G) vwCl (wM G b ((fth (if (fX2_isNone p1) = 0 then (0 : Int32) else (1 : Int32)) (if (fX2_isFrom (0 : Int32) (13 : Int32) p2) = 0 then (1 : Int32) else (0 : Int32))), (my T), (mm T), (md T), (mt T), (T.2.2.2.2.2))) H := hP
    have hD : va_D A (wM G b ((fth (if (fX2_isNone p1) = 0 then (0 : Int32) else (1 : Int32)) (if (fX2_isFrom (0 : Int32) (13 : Int32) p2) = 0 then (1 : Int32) else (0 : Int32))), (my T), (mm T), (md T), (mt T), (T.2.2.2.2.2))) := hD
    refine lv_if_eq (tgt := 46) hx hb dX2_between_38 (by decide) (fun c_2 => ?_) (fun c_2 => ?_)
    · have c_2 := rf_p c_2
      refine lv_aload_n hx hb dX2_between_46 rfl (lv_at hl 0 rfl) ?_
      refine lv_iload_n hx hb dX2_between_47 rfl (lv_at hl 1 rfl) ?_
      refine lv_iload_n hx hb dX2_between_48 rfl (lv_at hl 2 rfl) ?_
      refine lv_iload_n hx hb dX2_between_49 rfl (lv_at hl 3 rfl) ?_
      refine weVf (wr := []) (wd := (wM G b ((fth (if (fX2_isNone p1) = 0 then (0 : Int32) else (1 : Int32)) (if (fX2_isFrom (0 : Int32) (13 : Int32) p2) = 0 then (1 : Int32) else (0 : Int32))), (my T), (mm T), (md T), (mt T), (T.2.2.2.2.2)))) (as := [.int p0, .int p1, .int p2]) (rest := []) (cl := RX2) C (u_betweenNow l G b ((fth (if (fX2_isNone p1) = 0 then (0 : Int32) else (1 : Int32)) (if (fX2_isFrom (0 : Int32) (13 : Int32) p2) = 0 then (1 : Int32) else (0 : Int32))), (my T), (mm T), (md T), (mt T), (T.2.2.2.2.2)) p0 p1 p2 (none_in c_1) (none_in (dia0 (frf_a c_2))) (MO.same hT rfl)) F_X2_betweenNow rfl bw1577 bw1579 (hw _ bw49) (hE.S hS hAB) hP hD hS hA hAB (rv4 hE.K hP (q0 := 0) rfl) hl.1 dX2_between_50 ⟨Nat.le_of_ble_eq_true rfl, Nat.le_of_ble_eq_true rfl⟩ rfl (Nat.le_of_ble_eq_true rfl) ⟨Nat.le_of_ble_eq_true rfl, Nat.le_of_ble_eq_true rfl⟩ (fun r9 wd9 H locs hp9 hP hD hS => ?_)
      obtain ⟨q9_50, ws9_50, rfl, rfl, ht9_50⟩ := hp9
      have hP : va_P (gD G) vwCl ((wM G b (gX2_betweenNow ((fth (if (fX2_isNone p1) = 0 then (0 : Int32) else (1 : Int32)) (if (fX2_isFrom (0 : Int32) (13 : Int32) p2) = 0 then (1 : Int32) else (0 : Int32))), (my T), (mm T), (md T), (mt T), (T.2.2.2.2.2)) p0 p1 p2)) ++ ws9_50) H := hP
      have hD : va_D A ((wM G b (gX2_betweenNow ((fth (if (fX2_isNone p1) = 0 then (0 : Int32) else (1 : Int32)) (if (fX2_isFrom (0 : Int32) (13 : Int32) p2) = 0 then (1 : Int32) else (0 : Int32))), (my T), (mm T), (md T), (mt T), (T.2.2.2.2.2)) p0 p1 p2)) ++ ws9_50) := hD
      refine W.eq (g2 := F0 m 53 ls [.ref q9_50]) rfl ?_
      exact weA hx hb hr (Or.inl ⟨_, rfl⟩) hk ⟨q9_50, ws9_50, rfl, (congrArg (fun z9 => wM G b z9 ++ ws9_50) (show gX2_between T p0 p1 p2 = (gX2_betweenNow ((fth (if (fX2_isNone p1) = 0 then (0 : Int32) else (1 : Int32)) (if (fX2_isFrom (0 : Int32) (13 : Int32) p2) = 0 then (1 : Int32) else (0 : Int32))), (my T), (mm T), (md T), (mt T), (T.2.2.2.2.2)) p0 p1 p2) from (Eq.trans (if_pos c_1) (if_pos c_2))).symm), ht9_50.cg (show oX2_between T p0 p1 p2 = (oX2_betweenNow ((fth (if (fX2_isNone p1) = 0 then (0 : Int32) else (1 : Int32)) (if (fX2_isFrom (0 : Int32) (13 : Int32) p2) = 0 then (1 : Int32) else (0 : Int32))), (my T), (mm T), (md T), (mt T), (T.2.2.2.2.2)) p0 p1 p2) from (Eq.trans (if_pos c_1) (if_pos c_2)))⟩ hP hD hS (Nat.le_of_ble_eq_true rfl) (Nat.le_of_ble_eq_true rfl) dX2_between_53
    · have c_2 := rf_n c_2
      refine va_ldcS hx hb hown hE.1.2.2.2.2.1 dX2_between_41 ?_
      refine lv_goto (tgt := 53) hx hb dX2_between_43 (by decide) ?_
      exact weA hx hb hr (Or.inl ⟨_, rfl⟩) hk ⟨_, [], rfl, (congrArg (fun z9 => wM G b z9 ++ []) (show gX2_between T p0 p1 p2 = ((fth (if (fX2_isNone p1) = 0 then (0 : Int32) else (1 : Int32)) (if (fX2_isFrom (0 : Int32) (13 : Int32) p2) = 0 then (1 : Int32) else (0 : Int32))), (my T), (mm T), (md T), (mt T), (T.2.2.2.2.2)) from (Eq.trans (if_pos c_1) (if_neg c_2))).symm), TXO.no (show oX2_between T p0 p1 p2 = none from (Eq.trans (if_pos c_1) (if_neg c_2)))⟩ (P_nil hP) (D_nil hD) hS (Nat.le_of_ble_eq_true rfl) (Nat.le_of_ble_eq_true rfl) dX2_between_53

set_option maxRecDepth 100000 in
set_option maxHeartbeats 4000000 in
theorem u_until (l : Launch) (G : GT) (b : Nat → Nat) (T : SM) (p0 : Int32) (p1 : Int32) (p2 : Int32) (hT : MO T) : WE l G yX2_until cX2_until 4 (some (.object "java/lang/String")) 10 6 160 [.ref (b 0), .int p0, .int p1, .int p2] (wM G b T) (fun r wd => ∃ (q : Nat) (ws : va_W), r = some (.ref q) ∧ wd = wM G b (gX2_until T p0 p1 p2) ++ ws ∧ TXO G q (oX2_until T p0 p1 p2) ws) := by
  refine WE.ofW (own := RX2) rfl (plainFor_of_name pnN_RX2) (Nat.le_of_ble_eq_true rfl) ?_
  intro p e s m below meth c A C hr hk hnm hE hP hD hA hAB hS ls hl
  have hx := C.1
  have hb := C.2.1
  have hml := C.2.2.1
  have hown := C.2.2.2.1
  have hw := C.2.2.2.2
  have hl : lv_has ls 4 [(0, .ref (b 0)), (1, .int p0), (2, .int p1), (3, .int p2)] := hl
  refine lv_aload_n hx hb dX2_until_0 rfl (lv_at hl 0 rfl) ?_
  refine lv_iload_n hx hb dX2_until_1 rfl (lv_at hl 1 rfl) ?_
  refine rcSi (as := [.int p0]) (rest := [.ref (b 0)]) C (c_X2_isNone l G p0) F_X2_isNone rfl bw1216 bw1217 (hE.S hS hAB) vpn hl.1 dX2_until_2 ⟨Nat.le_of_ble_eq_true rfl, Nat.le_of_ble_eq_true rfl⟩ rfl (Nat.le_of_ble_eq_true rfl) ⟨Nat.le_of_ble_eq_true rfl, Nat.le_of_ble_eq_true rfl⟩ ?_
  refine lv_if_ne (tgt := 15) hx hb dX2_until_5 (by decide) (fun c_1 => ?_) (fun c_1 => ?_)
  · refine lv_iconst (v := (1 : Int32)) hx hb dX2_until_15 qi_1 ?_
    refine lv_goto (tgt := 20) hx hb dX2_until_16 (by decide) ?_
    refine lv_iconst (v := (0 : Int32)) hx hb dX2_until_20 qi_0 ?_
    refine lv_bipush (v := (13 : Int32)) hx hb dX2_until_21 qb_13 ?_
    refine lv_iload_n hx hb dX2_until_23 rfl (lv_at hl 3 rfl) ?_
    refine rcSi (as := [.int (0 : Int32), .int (13 : Int32), .int p2]) (rest := [.int (1 : Int32), .ref (b 0)]) C (c_X2_isFrom l G (0 : Int32) (13 : Int32) p2) F_X2_isFrom rfl bw1208 bw1209 (hE.S hS hAB) vpn hl.1 dX2_until_24 ⟨Nat.le_of_ble_eq_true rfl, Nat.le_of_ble_eq_true rfl⟩ rfl (Nat.le_of_ble_eq_true rfl) ⟨Nat.le_of_ble_eq_true rfl, Nat.le_of_ble_eq_true rfl⟩ ?_
    refine k_dia (b := (fX2_isFrom (0 : Int32) (13 : Int32) p2) = 0) (x := (1 : Int32)) (y := (0 : Int32)) (Wg := fun z9 => W _ _ _ _ _ _ _ _ _ _ _ _ _ _ _ (F0 m 35 ls (.int z9 :: _))) ?_ (fun t9 f9 => lv_if_ne (tgt := 34) hx hb dX2_until_27 (by decide) (fun c_x => lv_iconst (v := (0 : Int32)) hx hb dX2_until_34 qi_0 (f9 c_x)) (fun c_x => lv_iconst (v := (1 : Int32)) hx hb dX2_until_30 qi_1 (lv_goto (tgt := 35) hx hb dX2_until_31 (by decide) (t9 c_x))))
    refine wcVi (as := [.int (1 : Int32), .int (if (fX2_isFrom (0 : Int32) (13 : Int32) p2) = 0 then (1 : Int32) else (0 : Int32))]) (rest := []) (cl := RX2) C (c_X2_refuses l G b T (1 : Int32) (if (fX2_isFrom (0 : Int32) (13 : Int32) p2) = 0 then (1 : Int32) else (0 : Int32))) F_X2_refuses rfl bw1219 bw1221 bw33 (hE.S hS hAB) hP hD hS hA hAB (rv4 hE.K hP (q0 := 0) rfl) hl.1 dX2_until_35 ⟨Nat.le_of_ble_eq_true rfl, Nat.le_of_ble_eq_true rfl⟩ rfl (Nat.le_of_ble_eq_true rfl) ⟨Nat.le_of_ble_eq_true rfl, Nat.le_of_ble_eq_true rfl⟩ (fun H locs hP hD hS => ?_)
    have hP : va_P (gD G) vwCl (wM G b ((fth (1 : Int32) (if (fX2_isFrom (0 : Int32) (13 : Int32) p2) = 0 then (1 : Int32) else (0 : Int32))), (my T), (mm T), (md T), (mt T), (T.2.2.2.2.2))) H := hP
    have hD : va_D A (wM G b ((fth (1 : Int32) (if (fX2_isFrom (0 : Int32) (13 : Int32) p2) = 0 then (1 : Int32) else (0 : Int32))), (my T), (mm T), (md T), (mt T), (T.2.2.2.2.2))) := hD
    refine lv_if_eq (tgt := 46) hx hb dX2_until_38 (by decide) (fun c_x => absurd c_x (frf_l1 (if (fX2_isFrom (0 : Int32) (13 : Int32) p2) = 0 then (1 : Int32) else (0 : Int32)))) (fun _ => ?_)
    refine va_ldcS hx hb hown hE.1.2.2.2.2.1 dX2_until_41 ?_
    refine lv_goto (tgt := 53) hx hb dX2_until_43 (by decide) ?_
    exact weA hx hb hr (Or.inl ⟨_, rfl⟩) hk ⟨_, [], rfl, (congrArg (fun z9 => wM G b z9 ++ []) (show gX2_until T p0 p1 p2 = ((fth (1 : Int32) (if (fX2_isFrom (0 : Int32) (13 : Int32) p2) = 0 then (1 : Int32) else (0 : Int32))), (my T), (mm T), (md T), (mt T), (T.2.2.2.2.2)) from (if_neg c_1)).symm), TXO.no (show oX2_until T p0 p1 p2 = none from (if_neg c_1))⟩ (P_nil hP) (D_nil hD) hS (Nat.le_of_ble_eq_true rfl) (Nat.le_of_ble_eq_true rfl) dX2_until_53
  · refine lv_iload_n hx hb dX2_until_8 rfl (lv_at hl 2 rfl) ?_
    refine rcSi (as := [.int p1]) (rest := [.ref (b 0)]) C (c_X2_isNone l G p1) F_X2_isNone rfl bw1216 bw1217 (hE.S hS hAB) vpn hl.1 dX2_until_9 ⟨Nat.le_of_ble_eq_true rfl, Nat.le_of_ble_eq_true rfl⟩ rfl (Nat.le_of_ble_eq_true rfl) ⟨Nat.le_of_ble_eq_true rfl, Nat.le_of_ble_eq_true rfl⟩ ?_
    refine k_dia (b := (fX2_isNone p1) = 0) (x := (0 : Int32)) (y := (1 : Int32)) (Wg := fun z9 => W _ _ _ _ _ _ _ _ _ _ _ _ _ _ _ (F0 m 20 ls (.int z9 :: _))) ?_ (fun t9 f9 => lv_if_eq (tgt := 19) hx hb dX2_until_12 (by decide) (fun c_x => lv_iconst (v := (0 : Int32)) hx hb dX2_until_19 qi_0 (t9 c_x)) (fun c_x => lv_iconst (v := (1 : Int32)) hx hb dX2_until_15 qi_1 (lv_goto (tgt := 20) hx hb dX2_until_16 (by decide) (f9 c_x))))
    refine lv_iconst (v := (0 : Int32)) hx hb dX2_until_20 qi_0 ?_
    refine lv_bipush (v := (13 : Int32)) hx hb dX2_until_21 qb_13 ?_
    refine lv_iload_n hx hb dX2_until_23 rfl (lv_at hl 3 rfl) ?_
    refine rcSi (as := [.int (0 : Int32), .int (13 : Int32), .int p2]) (rest := [.int (if (fX2_isNone p1) = 0 then (0 : Int32) else (1 : Int32)), .ref (b 0)]) C (c_X2_isFrom l G (0 : Int32) (13 : Int32) p2) F_X2_isFrom rfl bw1208 bw1209 (hE.S hS hAB) vpn hl.1 dX2_until_24 ⟨Nat.le_of_ble_eq_true rfl, Nat.le_of_ble_eq_true rfl⟩ rfl (Nat.le_of_ble_eq_true rfl) ⟨Nat.le_of_ble_eq_true rfl, Nat.le_of_ble_eq_true rfl⟩ ?_
    refine k_dia (b := (fX2_isFrom (0 : Int32) (13 : Int32) p2) = 0) (x := (1 : Int32)) (y := (0 : Int32)) (Wg := fun z9 => W _ _ _ _ _ _ _ _ _ _ _ _ _ _ _ (F0 m 35 ls (.int z9 :: _))) ?_ (fun t9 f9 => lv_if_ne (tgt := 34) hx hb dX2_until_27 (by decide) (fun c_x => lv_iconst (v := (0 : Int32)) hx hb dX2_until_34 qi_0 (f9 c_x)) (fun c_x => lv_iconst (v := (1 : Int32)) hx hb dX2_until_30 qi_1 (lv_goto (tgt := 35) hx hb dX2_until_31 (by decide) (t9 c_x))))
    refine wcVi (as := [.int (if (fX2_isNone p1) = 0 then (0 : Int32) else (1 : Int32)), .int (if (fX2_isFrom (0 : Int32) (13 : Int32) p2) = 0 then (1 : Int32) else (0 : Int32))]) (rest := []) (cl := RX2) C (c_X2_refuses l G b T (if (fX2_isNone p1) = 0 then (0 : Int32) else (1 : Int32)) (if (fX2_isFrom (0 : Int32) (13 : Int32) p2) = 0 then (1 : Int32) else (0 : Int32))) F_X2_refuses rfl bw1219 bw1221 bw33 (hE.S hS hAB) hP hD hS hA hAB (rv4 hE.K hP (q0 := 0) rfl) hl.1 dX2_until_35 ⟨Nat.le_of_ble_eq_true rfl, Nat.le_of_ble_eq_true rfl⟩ rfl (Nat.le_of_ble_eq_true rfl) ⟨Nat.le_of_ble_eq_true rfl, Nat.le_of_ble_eq_true rfl⟩ (fun H locs hP hD hS => ?_)
    have hP : va_P (gD G) vwCl (wM G b ((fth (if (fX2_isNone p1) = 0 then (0 : Int32) else (1 : Int32)) (if (fX2_isFrom (0 : Int32) (13 : Int32) p2) = 0 then (1 : Int32) else (0 : Int32))), (my T), (mm T), (md T), (mt T), (T.2.2.2.2.2))) H := hP
    have hD : va_D A (wM G b ((fth (if (fX2_isNone p1) = 0 then (0 : Int32) else (1 : Int32)) (if (fX2_isFrom (0 : Int32) (13 : Int32) p2) = 0 then (1 : Int32) else (0 : Int32))), (my T), (mm T), (md T), (mt T), (T.2.2.2.2.2))) := hD
    refine lv_if_eq (tgt := 46) hx hb dX2_until_38 (by decide) (fun c_2 => ?_) (fun c_2 => ?_)
    · have c_2 := rf_p c_2
      refine lv_aload_n hx hb dX2_until_46 rfl (lv_at hl 0 rfl) ?_
      refine lv_iload_n hx hb dX2_until_47 rfl (lv_at hl 1 rfl) ?_
      refine lv_iload_n hx hb dX2_until_48 rfl (lv_at hl 2 rfl) ?_
      refine lv_iload_n hx hb dX2_until_49 rfl (lv_at hl 3 rfl) ?_
      refine weVf (wr := []) (wd := (wM G b ((fth (if (fX2_isNone p1) = 0 then (0 : Int32) else (1 : Int32)) (if (fX2_isFrom (0 : Int32) (13 : Int32) p2) = 0 then (1 : Int32) else (0 : Int32))), (my T), (mm T), (md T), (mt T), (T.2.2.2.2.2)))) (as := [.int p0, .int p1, .int p2]) (rest := []) (cl := RX2) C (u_betweenNow l G b ((fth (if (fX2_isNone p1) = 0 then (0 : Int32) else (1 : Int32)) (if (fX2_isFrom (0 : Int32) (13 : Int32) p2) = 0 then (1 : Int32) else (0 : Int32))), (my T), (mm T), (md T), (mt T), (T.2.2.2.2.2)) p0 p1 p2 (none_in c_1) (none_in (dia0 (frf_a c_2))) (MO.same hT rfl)) F_X2_betweenNow rfl bw1577 bw1579 (hw _ bw49) (hE.S hS hAB) hP hD hS hA hAB (rv4 hE.K hP (q0 := 0) rfl) hl.1 dX2_until_50 ⟨Nat.le_of_ble_eq_true rfl, Nat.le_of_ble_eq_true rfl⟩ rfl (Nat.le_of_ble_eq_true rfl) ⟨Nat.le_of_ble_eq_true rfl, Nat.le_of_ble_eq_true rfl⟩ (fun r9 wd9 H locs hp9 hP hD hS => ?_)
      obtain ⟨q9_50, ws9_50, rfl, rfl, ht9_50⟩ := hp9
      have hP : va_P (gD G) vwCl ((wM G b (gX2_betweenNow ((fth (if (fX2_isNone p1) = 0 then (0 : Int32) else (1 : Int32)) (if (fX2_isFrom (0 : Int32) (13 : Int32) p2) = 0 then (1 : Int32) else (0 : Int32))), (my T), (mm T), (md T), (mt T), (T.2.2.2.2.2)) p0 p1 p2)) ++ ws9_50) H := hP
      have hD : va_D A ((wM G b (gX2_betweenNow ((fth (if (fX2_isNone p1) = 0 then (0 : Int32) else (1 : Int32)) (if (fX2_isFrom (0 : Int32) (13 : Int32) p2) = 0 then (1 : Int32) else (0 : Int32))), (my T), (mm T), (md T), (mt T), (T.2.2.2.2.2)) p0 p1 p2)) ++ ws9_50) := hD
      refine W.eq (g2 := F0 m 53 ls [.ref q9_50]) rfl ?_
      exact weA hx hb hr (Or.inl ⟨_, rfl⟩) hk ⟨q9_50, ws9_50, rfl, (congrArg (fun z9 => wM G b z9 ++ ws9_50) (show gX2_until T p0 p1 p2 = (gX2_betweenNow ((fth (if (fX2_isNone p1) = 0 then (0 : Int32) else (1 : Int32)) (if (fX2_isFrom (0 : Int32) (13 : Int32) p2) = 0 then (1 : Int32) else (0 : Int32))), (my T), (mm T), (md T), (mt T), (T.2.2.2.2.2)) p0 p1 p2) from (Eq.trans (if_pos c_1) (if_pos c_2))).symm), ht9_50.cg (show oX2_until T p0 p1 p2 = (oX2_betweenNow ((fth (if (fX2_isNone p1) = 0 then (0 : Int32) else (1 : Int32)) (if (fX2_isFrom (0 : Int32) (13 : Int32) p2) = 0 then (1 : Int32) else (0 : Int32))), (my T), (mm T), (md T), (mt T), (T.2.2.2.2.2)) p0 p1 p2) from (Eq.trans (if_pos c_1) (if_pos c_2)))⟩ hP hD hS (Nat.le_of_ble_eq_true rfl) (Nat.le_of_ble_eq_true rfl) dX2_until_53
    · have c_2 := rf_n c_2
      refine va_ldcS hx hb hown hE.1.2.2.2.2.1 dX2_until_41 ?_
      refine lv_goto (tgt := 53) hx hb dX2_until_43 (by decide) ?_
      exact weA hx hb hr (Or.inl ⟨_, rfl⟩) hk ⟨_, [], rfl, (congrArg (fun z9 => wM G b z9 ++ []) (show gX2_until T p0 p1 p2 = ((fth (if (fX2_isNone p1) = 0 then (0 : Int32) else (1 : Int32)) (if (fX2_isFrom (0 : Int32) (13 : Int32) p2) = 0 then (1 : Int32) else (0 : Int32))), (my T), (mm T), (md T), (mt T), (T.2.2.2.2.2)) from (Eq.trans (if_pos c_1) (if_neg c_2))).symm), TXO.no (show oX2_until T p0 p1 p2 = none from (Eq.trans (if_pos c_1) (if_neg c_2)))⟩ (P_nil hP) (D_nil hD) hS (Nat.le_of_ble_eq_true rfl) (Nat.le_of_ble_eq_true rfl) dX2_until_53

set_option maxRecDepth 100000 in
set_option maxHeartbeats 4000000 in
theorem u_between5 (l : Launch) (G : GT) (b : Nat → Nat) (T : SM) (p0 : Int32) (p1 : Int32) (h0 : vp_in p0 6) (h1 : vp_in p1 6) (hT : MO T) : WE l G yX2_betweenNow cX2_betweenNow 7 (some (.object "java/lang/String")) 9 6 160 [.ref (b 0), .int p0, .int p1, .int (5 : Int32)] (wM G b T) (fun r wd => ∃ (q u : Nat) (f : Nat → Int32) (k d : Nat), r = some (.ref q) ∧ wd = (wM G b T ++ [(q, .inr (0, [.ref u, .int 0, .int 0, .int 0])), (u, .inl (gC G 2, (k + d), .inl f))]) ∧ SS (fX2_lineBetween T p0 p1 (5 : Int32)) k d) := by
  refine WE.ofW (own := RX2) rfl (plainFor_of_name pnN_RX2) (Nat.le_of_ble_eq_true rfl) ?_
  intro p e s m below meth c A C hr hk hnm hE hP hD hA hAB hS ls hl
  have hx := C.1
  have hb := C.2.1
  have hml := C.2.2.1
  have hown := C.2.2.2.1
  have hw := C.2.2.2.2
  have hl : lv_has ls 7 [(0, .ref (b 0)), (1, .int p0), (2, .int p1), (3, .int (5 : Int32))] := hl
  refine lv_iload_n hx hb dX2_betweenNow_0 rfl (lv_at hl 3 rfl) ?_
  refine lv_if_ne (tgt := 29) hx hb dX2_betweenNow_1 (by decide) (fun _ => ?_) (fun c_x => absurd c_x (by decide))
  refine lv_iconst (v := (0 : Int32)) hx hb dX2_betweenNow_29 qi_0 ?_
  refine lv_istore (lv' := [(4, .int (0 : Int32)), (0, .ref (b 0)), (1, .int p0), (2, .int p1), (3, .int (5 : Int32))]) hx hb dX2_betweenNow_30 hl (Nat.le_of_ble_eq_true rfl) rfl (fun ls hl => ?_)
  refine lv_iload hx hb dX2_betweenNow_32 (lv_at hl 0 rfl) ?_
  refine lv_if_ne (tgt := 65) hx hb dX2_betweenNow_34 (by decide) (fun c_x => absurd (show (0 : Int32) = 0 from by decide) c_x) (fun _ => ?_)
  refine lv_iload_n hx hb dX2_betweenNow_37 rfl (lv_at hl 4 rfl) ?_
  refine lv_bipush (v := (8 : Int32)) hx hb dX2_betweenNow_38 qb_8 ?_
  refine lv_icmp_le (tgt := 78) hx hb dX2_betweenNow_40 (by decide) (fun _ => ?_) (fun c_x => absurd (show (5 : Int32) ≤ (8 : Int32) from by decide) c_x)
  refine lv_iload_n hx hb dX2_betweenNow_78 rfl (lv_at hl 4 rfl) ?_
  refine lv_bipush (v := (9 : Int32)) hx hb dX2_betweenNow_79 qb_9 ?_
  refine lv_icmp_ge (tgt := 110) hx hb dX2_betweenNow_81 (by decide) (fun c_x => absurd c_x (by decide)) (fun _ => ?_)
  refine va_new (cl := vwCl) (tys := gT G) (ci := 1) (fs := [.null, .int 0, .int 0, .int 0]) (C := RJ4) (T := TJ4) (N := 4) hx hb hw inB_J4 tyJ4 tyJ4_ok hown (hw _ bw1510) (hw _ bw778) (hw _ bw67) hE.K hP hD hS hA rfl (fun j hj => by rcases (show j = 0 ∨ j = 1 ∨ j = 2 ∨ j = 3 by omega) with rfl | rfl | rfl | rfl <;> rfl) (Nat.le_of_ble_eq_true rfl) (Nat.le_of_ble_eq_true rfl) dX2_betweenNow_84 (fun q84 H hP hD hS => ?_)
  have hP : va_P (gD G) vwCl ((wM G b T) ++ [(q84, .inr (1, [.null, .int 0, .int 0, .int 0]))]) H := hP
  have hD : va_D A ((wM G b T) ++ [(q84, .inr (1, [.null, .int 0, .int 0, .int 0]))]) := hD
  refine lv_dup hx hb dX2_betweenNow_87 rfl ?_
  have hP9 : va_P (gD G) vwCl ((wM G b T) ++ [(q84, .inr (1, [.null, .int 0, .int 0, .int 0]))]) _ := hP
  have hD9 : va_D A ((wM G b T) ++ [(q84, .inr (1, [.null, .int 0, .int 0, .int 0]))]) := hD
  refine weI (wr := (wM G b T)) (wd := [(q84, .inr (1, [.null, .int 0, .int 0, .int 0]))]) (as := []) (rest := [.ref q84]) C (i_J4_init_da8c8 l G q84) F_J4_init_da8c8 rfl bw1511 bw780 rfl (hE.S hS hAB) hP9 hD9 hS hA hAB hl.1 dX2_betweenNow_88 ⟨Nat.le_of_ble_eq_true rfl, Nat.le_of_ble_eq_true rfl⟩ rfl (Nat.le_of_ble_eq_true rfl) ⟨Nat.le_of_ble_eq_true rfl, Nat.le_of_ble_eq_true rfl⟩ (fun r9 wd9 H locs hp9 hP hD hS => ?_)
  obtain ⟨rfl, v9_88, rfl⟩ := hp9
  have hP : va_P (gD G) vwCl ((wM G b T) ++ [(q84, .inr (1, [.ref v9_88, .int 0, .int 0, .int (nI 0)])), (v9_88, .inl (gC G 2, 16, .inl (fun _ => 0)))]) H := hP
  have hD : va_D A ((wM G b T) ++ [(q84, .inr (1, [.ref v9_88, .int 0, .int 0, .int (nI 0)])), (v9_88, .inl (gC G 2, 16, .inl (fun _ => 0)))]) := hD
  refine W.eq (g2 := F0 m 91 ls [.ref q84]) rfl ?_
  refine va_ldcS hx hb hown hE.1.2.2.2.2.1 dX2_betweenNow_91 ?_
  have hP9 : va_P (gD G) vwCl ((wM G b T) ++ [(q84, .inr (1, [.ref v9_88, .int 0, .int 0, .int (nI 0)])), (v9_88, .inl (gC G 2, 16, .inl (fun _ => 0)))]) _ := hP
  have hD9 : va_D A ((wM G b T) ++ [(q84, .inr (1, [.ref v9_88, .int 0, .int 0, .int (nI 0)])), (v9_88, .inl (gC G 2, 16, .inl (fun _ => 0)))]) := hD
  refine weVf (wr := (wM G b T)) (wd := [(q84, .inr (1, [.ref v9_88, .int 0, .int 0, .int (nI 0)])), (v9_88, .inl (gC G 2, 16, .inl (fun _ => 0)))]) (as := [.ref (ga G 6)]) (rest := []) (cl := RJ4) C (s_appS l G q84 v9_88 16 (fun _ => 0) (Or.inl rfl) sb_fit0) F_J4_append_15ec4 rfl bw1512 bw1014 (hw _ bw1015) (hE.S hS hAB) hP9 hD9 hS hA hAB (rv1 hE.K hP (q0 := 5) rfl) hl.1 dX2_betweenNow_93 ⟨Nat.le_of_ble_eq_true rfl, Nat.le_of_ble_eq_true rfl⟩ rfl (Nat.le_of_ble_eq_true rfl) ⟨Nat.le_of_ble_eq_true rfl, Nat.le_of_ble_eq_true rfl⟩ (fun r9 wd9 H locs hp9 hP hD hS => ?_)
  obtain ⟨rfl, v9_93, m9_93, f9_93, rfl, hm9_93, hle9_93, hf9_93⟩ := hp9
  have hP : va_P (gD G) vwCl ((wM G b T) ++ [(q84, .inr (1, [.ref v9_93, .int 0, .int 0, .int (nI 0)])), (v9_93, .inl (gC G 2, m9_93, .inl f9_93))]) H := hP
  have hD : va_D A ((wM G b T) ++ [(q84, .inr (1, [.ref v9_93, .int 0, .int 0, .int (nI 0)])), (v9_93, .inl (gC G 2, m9_93, .inl f9_93))]) := hD
  refine W.eq (g2 := F0 m 96 ls [.ref q84]) rfl ?_
  refine lv_aload_n hx hb dX2_betweenNow_96 rfl (lv_at hl 1 rfl) ?_
  refine lv_iload_n hx hb dX2_betweenNow_97 rfl (lv_at hl 2 rfl) ?_
  refine lv_iload_n hx hb dX2_betweenNow_98 rfl (lv_at hl 3 rfl) ?_
  refine lv_iload_n hx hb dX2_betweenNow_99 rfl (lv_at hl 4 rfl) ?_
  refine rcVf (st1 := [.long (fX2_lineBetween T p0 p1 (5 : Int32)), .ref q84]) (as := [.int p0, .int p1, .int (5 : Int32)]) (rest := [.ref q84]) (cl := RX2) C (c_X2_lineBetween l G b T p0 p1 (5 : Int32) h0 h1 hT) F_X2_lineBetween rfl bw1584 bw1586 (hw _ bw50) (hE.S hS hAB) (show va_P (gD G) vwCl (wM G b T) _ from hP.sub [0, 1, 2, 3, 4] rfl) (rv4 hE.K hP (q0 := 0) rfl) hl.1 dX2_betweenNow_100 ⟨Nat.le_of_ble_eq_true rfl, Nat.le_of_ble_eq_true rfl⟩ rfl (Nat.le_of_ble_eq_true rfl) ⟨Nat.le_of_ble_eq_true rfl, Nat.le_of_ble_eq_true rfl⟩ rfl ?_
  obtain ⟨k9_103, d9_103, hs9_103⟩ := SS_of (fX2_lineBetween T p0 p1 (5 : Int32))
  have hP9 : va_P (gD G) vwCl ((wM G b T) ++ [(q84, .inr (1, [.ref v9_93, .int 0, .int 0, .int (nI 0)])), (v9_93, .inl (gC G 2, m9_93, .inl f9_93))]) _ := hP
  have hD9 : va_D A ((wM G b T) ++ [(q84, .inr (1, [.ref v9_93, .int 0, .int 0, .int (nI 0)])), (v9_93, .inl (gC G 2, m9_93, .inl f9_93))]) := hD
  refine weVf (wr := (wM G b T)) (wd := [(q84, .inr (1, [.ref v9_93, .int 0, .int 0, .int (nI 0)])), (v9_93, .inl (gC G 2, m9_93, .inl f9_93))]) (as := [.long (fX2_lineBetween T p0 p1 (5 : Int32))]) (rest := []) (cl := RJ4) C (s_appL l G q84 v9_93 m9_93 k9_103 d9_103 f9_93 (fX2_lineBetween T p0 p1 (5 : Int32)) hm9_93 hf9_93.1 hs9_103) F_J4_append_f7089 rfl bw1513 bw1514 (hw _ bw1515) (hE.S hS hAB) hP9 hD9 hS hA hAB (rv1 hE.K hP (q0 := 5) rfl) hl.1 dX2_betweenNow_103 ⟨Nat.le_of_ble_eq_true rfl, Nat.le_of_ble_eq_true rfl⟩ rfl (Nat.le_of_ble_eq_true rfl) ⟨Nat.le_of_ble_eq_true rfl, Nat.le_of_ble_eq_true rfl⟩ (fun r9 wd9 H locs hp9 hP hD hS => ?_)
  obtain ⟨rfl, v9_103, m9_103, f9_103, rfl, hm9_103, hle9_103, hf9_103⟩ := hp9
  have hP : va_P (gD G) vwCl ((wM G b T) ++ [(q84, .inr (1, [.ref v9_103, .int 0, .int 0, .int (nI (k9_103 + d9_103))])), (v9_103, .inl (gC G 2, m9_103, .inl f9_103))]) H := hP
  have hD : va_D A ((wM G b T) ++ [(q84, .inr (1, [.ref v9_103, .int 0, .int 0, .int (nI (k9_103 + d9_103))])), (v9_103, .inl (gC G 2, m9_103, .inl f9_103))]) := hD
  refine W.eq (g2 := F0 m 106 ls [.ref q84]) rfl ?_
  have hP9 : va_P (gD G) vwCl ((wM G b T) ++ [(q84, .inr (1, [.ref v9_103, .int 0, .int 0, .int (nI (k9_103 + d9_103))])), (v9_103, .inl (gC G 2, m9_103, .inl f9_103))]) _ := hP
  have hD9 : va_D A ((wM G b T) ++ [(q84, .inr (1, [.ref v9_103, .int 0, .int 0, .int (nI (k9_103 + d9_103))])), (v9_103, .inl (gC G 2, m9_103, .inl f9_103))]) := hD
  refine weVf (wr := (wM G b T)) (wd := [(q84, .inr (1, [.ref v9_103, .int 0, .int 0, .int (nI (k9_103 + d9_103))])), (v9_103, .inl (gC G 2, m9_103, .inl f9_103))]) (as := []) (rest := []) (cl := RJ4) C (s_toString l G q84 v9_103 m9_103 (k9_103 + d9_103) (tT (fX2_lineBetween T p0 p1 (5 : Int32)).toInt.natAbs k9_103 d9_103) f9_103 (mOK.lt hm9_103) hle9_103 hf9_103) F_J4_toString_0e30d rfl bw1540 bw943 (hw _ bw944) (hE.S hS hAB) hP9 hD9 hS hA hAB (rv1 hE.K hP (q0 := 5) rfl) hl.1 dX2_betweenNow_106 ⟨Nat.le_of_ble_eq_true rfl, Nat.le_of_ble_eq_true rfl⟩ rfl (Nat.le_of_ble_eq_true rfl) ⟨Nat.le_of_ble_eq_true rfl, Nat.le_of_ble_eq_true rfl⟩ (fun r9 wd9 H locs hp9 hP hD hS => ?_)
  obtain ⟨q9_106, u9_106, f9_106, rfl, rfl, hx9_106⟩ := hp9
  have hP : va_P (gD G) vwCl ((wM G b T) ++ [(q9_106, .inr (0, [.ref u9_106, .int 0, .int 0, .int 0])), (u9_106, .inl (gC G 2, (k9_103 + d9_103), .inl f9_106))]) H := hP
  have hD : va_D A ((wM G b T) ++ [(q9_106, .inr (0, [.ref u9_106, .int 0, .int 0, .int 0])), (u9_106, .inl (gC G 2, (k9_103 + d9_103), .inl f9_106))]) := hD
  refine W.eq (g2 := F0 m 109 ls [.ref q9_106]) rfl ?_
  exact weA hx hb hr (Or.inl ⟨_, rfl⟩) hk ⟨_, _, _, k9_103, d9_103, rfl, rfl, hs9_103⟩ hP hD hS (Nat.le_of_ble_eq_true rfl) (Nat.le_of_ble_eq_true rfl) dX2_betweenNow_109
