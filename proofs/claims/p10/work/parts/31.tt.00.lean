set_option maxRecDepth 100000 in
set_option maxHeartbeats 4000000 in
theorem t_nanoOfDay (l : Launch) (G : GT) (a : Nat → Nat) (S : SX) (p0 : Int32) (h0 : vp_in p0 6) : WE l G yX0_nanoOfDay cX0_nanoOfDay 2 (some (.object "java/lang/String")) 9 30 800 [.ref (a 0), .int p0] (wX G a S) (fun r wd => (∃ q : Nat, r = some (.ref q)) ∧ wd = wX G a (gX0_nanoOfDay S p0)) := by
  refine WE.ofW (own := RX0) rfl (by decide +kernel) (Nat.le_of_ble_eq_true rfl) ?_
  intro p e s m below meth c A C hr hk hnm hE hP hD hA hAB hS ls hl
  have hx := C.1
  have hb := C.2.1
  have hml := C.2.2.1
  have hown := C.2.2.2.1
  have hw := C.2.2.2.2
  have hl : lv_has ls 2 [(0, .ref (a 0)), (1, .int p0)] := hl
  refine lv_iload_n hx hb dX0_nanoOfDay_0 rfl (lv_at hl 1 rfl) ?_
  refine rcSv (as := [.int p0]) (rest := []) C (c_X0_checkMoment l G p0 h0) F_X0_checkMoment rfl bw387 bw388 (hE.S hS hAB) vpn hl.1 dX0_nanoOfDay_1 ⟨Nat.le_of_ble_eq_true rfl, Nat.le_of_ble_eq_true rfl⟩ rfl (Nat.le_of_ble_eq_true rfl) ⟨Nat.le_of_ble_eq_true rfl, Nat.le_of_ble_eq_true rfl⟩ ?_
  refine lv_aload_n hx hb dX0_nanoOfDay_4 rfl (lv_at hl 0 rfl) ?_
  refine va_get (D := gD G) (cl := vwCl) (tys := gT G) (ci := 2) (v := .ref (a 5)) (C := RX0) (T := TX0) (N := 12) hx hb hw inB_X0 hown hE.K hP 0 rfl rfl 4 (by decide) (hw _ bw98) (fun _ h9 => h9) rfl dX0_nanoOfDay_5 ?_
  refine lv_iload_n hx hb dX0_nanoOfDay_8 rfl (lv_at hl 1 rfl) ?_
  refine va_lald (tys := gT G) hx hb hE.K hP 5 1 rfl rfl h0 dX0_nanoOfDay_9 ?_
  have hP9 := P_nil hP
  have hD9 := D_nil hD
  refine weS (wr := (wX G a S)) (wd := []) (as := [.long ((xN S) p0.toNatClampNeg)]) (rest := []) C (s_digitsOf l G ((xN S) p0.toNatClampNeg)) F_X0_digitsOf rfl bw774 bw775 (hE.S hS hAB) hP9 hD9 hS hA hAB hl.1 dX0_nanoOfDay_10 ⟨Nat.le_of_ble_eq_true rfl, Nat.le_of_ble_eq_true rfl⟩ rfl (Nat.le_of_ble_eq_true rfl) ⟨Nat.le_of_ble_eq_true rfl, Nat.le_of_ble_eq_true rfl⟩ (fun r9 wd9 H locs hp9 hP hD hS => ?_)
  obtain ⟨⟨q9_10, rfl⟩, rfl⟩ := hp9
  have hP : va_P (gD G) vwCl (wX G a S) H := by rw [List.append_nil] at hP; exact hP
  have hD : va_D A (wX G a S) := by rw [List.append_nil] at hD; exact hD
  refine W.eq (g2 := F0 m 13 ls [.ref q9_10]) rfl ?_
  exact weA hx hb hr (Or.inl ⟨_, rfl⟩) hk ⟨⟨_, rfl⟩, (congrArg (wX G a) (show gX0_nanoOfDay S p0 = S from rfl).symm)⟩ hP hD hS (Nat.le_of_ble_eq_true rfl) (Nat.le_of_ble_eq_true rfl) dX0_nanoOfDay_13

set_option maxRecDepth 100000 in
set_option maxHeartbeats 4000000 in
theorem t_field (l : Launch) (G : GT) (a : Nat → Nat) (S : SX) (p0 : Int32) (p1 : Int32) (h0 : vp_in p0 6) (r1 : ¬ p1 < (0 : Int32)) (q1 : p1 ≤ (27 : Int32)) : WE l G yX0_field cX0_field 3 (some (.object "java/lang/String")) 9 30 800 [.ref (a 0), .int p0, .int p1] (wX G a S) (fun r wd => (∃ q : Nat, r = some (.ref q)) ∧ wd = wX G a (gX0_field S p0 p1)) := by
  refine WE.ofW (own := RX0) rfl (by decide +kernel) (Nat.le_of_ble_eq_true rfl) ?_
  intro p e s m below meth c A C hr hk hnm hE hP hD hA hAB hS ls hl
  have hx := C.1
  have hb := C.2.1
  have hml := C.2.2.1
  have hown := C.2.2.2.1
  have hw := C.2.2.2.2
  have hl : lv_has ls 3 [(0, .ref (a 0)), (1, .int p0), (2, .int p1)] := hl
  refine lv_iload_n hx hb dX0_field_0 rfl (lv_at hl 1 rfl) ?_
  refine rcSv (as := [.int p0]) (rest := []) C (c_X0_checkMoment l G p0 h0) F_X0_checkMoment rfl bw387 bw388 (hE.S hS hAB) vpn hl.1 dX0_field_1 ⟨Nat.le_of_ble_eq_true rfl, Nat.le_of_ble_eq_true rfl⟩ rfl (Nat.le_of_ble_eq_true rfl) ⟨Nat.le_of_ble_eq_true rfl, Nat.le_of_ble_eq_true rfl⟩ ?_
  refine lv_iload_n hx hb dX0_field_4 rfl (lv_at hl 2 rfl) ?_
  refine lv_iconst (v := (0 : Int32)) hx hb dX0_field_5 (by decide) ?_
  refine lv_bipush (v := (27 : Int32)) hx hb dX0_field_6 (by decide) ?_
  refine rcSv (as := [.int p1, .int (0 : Int32), .int (27 : Int32)]) (rest := []) C (c_X0_checkRange l G p1 (0 : Int32) (27 : Int32) r1 q1) F_X0_checkRange rfl bw308 bw309 (hE.S hS hAB) vpn hl.1 dX0_field_8 ⟨Nat.le_of_ble_eq_true rfl, Nat.le_of_ble_eq_true rfl⟩ rfl (Nat.le_of_ble_eq_true rfl) ⟨Nat.le_of_ble_eq_true rfl, Nat.le_of_ble_eq_true rfl⟩ ?_
  refine lv_iload_n hx hb dX0_field_11 rfl (lv_at hl 2 rfl) ?_
  refine lv_bipush (v := (14 : Int32)) hx hb dX0_field_12 (by decide) ?_
  refine lv_icmp_gt (tgt := 31) hx hb dX0_field_14 (by decide) (fun c_1 => ?_) (fun c_1 => ?_)
  · refine lv_aload_n hx hb dX0_field_31 rfl (lv_at hl 0 rfl) ?_
    refine lv_iload_n hx hb dX0_field_32 rfl (lv_at hl 1 rfl) ?_
    refine lv_iload_n hx hb dX0_field_33 rfl (lv_at hl 2 rfl) ?_
    refine rcVl (as := [.int p0, .int p1]) (rest := []) (cl := RX0) C (c_X0_dateField l G a S p0 p1 h0) F_X0_dateField rfl bw1093 bw1095 bw28 (hE.S hS hAB) hP (rv2 hE.K hP (q0 := 0) rfl) hl.1 dX0_field_34 ⟨Nat.le_of_ble_eq_true rfl, Nat.le_of_ble_eq_true rfl⟩ rfl (Nat.le_of_ble_eq_true rfl) ⟨Nat.le_of_ble_eq_true rfl, Nat.le_of_ble_eq_true rfl⟩ ?_
    have hP9 := P_nil hP
    have hD9 := D_nil hD
    refine weS (wr := (wX G a S)) (wd := []) (as := [.long (fX0_dateField S p0 p1)]) (rest := []) C (s_digitsOf l G (fX0_dateField S p0 p1)) F_X0_digitsOf rfl bw774 bw775 (hE.S hS hAB) hP9 hD9 hS hA hAB hl.1 dX0_field_37 ⟨Nat.le_of_ble_eq_true rfl, Nat.le_of_ble_eq_true rfl⟩ rfl (Nat.le_of_ble_eq_true rfl) ⟨Nat.le_of_ble_eq_true rfl, Nat.le_of_ble_eq_true rfl⟩ (fun r9 wd9 H locs hp9 hP hD hS => ?_)
    obtain ⟨⟨q9_37, rfl⟩, rfl⟩ := hp9
    have hP : va_P (gD G) vwCl (wX G a S) H := by rw [List.append_nil] at hP; exact hP
    have hD : va_D A (wX G a S) := by rw [List.append_nil] at hD; exact hD
    refine W.eq (g2 := F0 m 40 ls [.ref q9_37]) rfl ?_
    exact weA hx hb hr (Or.inl ⟨_, rfl⟩) hk ⟨⟨_, rfl⟩, (congrArg (wX G a) (show gX0_field S p0 p1 = S from (if_pos c_1)).symm)⟩ hP hD hS (Nat.le_of_ble_eq_true rfl) (Nat.le_of_ble_eq_true rfl) dX0_field_40
  · refine lv_aload_n hx hb dX0_field_17 rfl (lv_at hl 0 rfl) ?_
    refine va_get (D := gD G) (cl := vwCl) (tys := gT G) (ci := 2) (v := .ref (a 5)) (C := RX0) (T := TX0) (N := 12) hx hb hw inB_X0 hown hE.K hP 0 rfl rfl 4 (by decide) (hw _ bw98) (fun _ h9 => h9) rfl dX0_field_18 ?_
    refine lv_iload_n hx hb dX0_field_21 rfl (lv_at hl 1 rfl) ?_
    refine va_lald (tys := gT G) hx hb hE.K hP 5 1 rfl rfl h0 dX0_field_22 ?_
    refine lv_iload_n hx hb dX0_field_23 rfl (lv_at hl 2 rfl) ?_
    refine rcSl (as := [.long ((xN S) p0.toNatClampNeg), .int p1]) (rest := []) C (c_X0_timeField l G ((xN S) p0.toNatClampNeg) p1) F_X0_timeField rfl bw1088 bw1089 (hE.S hS hAB) vpn hl.1 dX0_field_24 ⟨Nat.le_of_ble_eq_true rfl, Nat.le_of_ble_eq_true rfl⟩ rfl (Nat.le_of_ble_eq_true rfl) ⟨Nat.le_of_ble_eq_true rfl, Nat.le_of_ble_eq_true rfl⟩ ?_
    have hP9 := P_nil hP
    have hD9 := D_nil hD
    refine weS (wr := (wX G a S)) (wd := []) (as := [.long (fX0_timeField ((xN S) p0.toNatClampNeg) p1)]) (rest := []) C (s_digitsOf l G (fX0_timeField ((xN S) p0.toNatClampNeg) p1)) F_X0_digitsOf rfl bw774 bw775 (hE.S hS hAB) hP9 hD9 hS hA hAB hl.1 dX0_field_27 ⟨Nat.le_of_ble_eq_true rfl, Nat.le_of_ble_eq_true rfl⟩ rfl (Nat.le_of_ble_eq_true rfl) ⟨Nat.le_of_ble_eq_true rfl, Nat.le_of_ble_eq_true rfl⟩ (fun r9 wd9 H locs hp9 hP hD hS => ?_)
    obtain ⟨⟨q9_27, rfl⟩, rfl⟩ := hp9
    have hP : va_P (gD G) vwCl (wX G a S) H := by rw [List.append_nil] at hP; exact hP
    have hD : va_D A (wX G a S) := by rw [List.append_nil] at hD; exact hD
    refine W.eq (g2 := F0 m 30 ls [.ref q9_27]) rfl ?_
    exact weA hx hb hr (Or.inl ⟨_, rfl⟩) hk ⟨⟨_, rfl⟩, (congrArg (wX G a) (show gX0_field S p0 p1 = S from (if_neg c_1)).symm)⟩ hP hD hS (Nat.le_of_ble_eq_true rfl) (Nat.le_of_ble_eq_true rfl) dX0_field_30

