set_option maxRecDepth 100000 in
set_option maxHeartbeats 4000000 in
theorem c_X0_withDayOfMonth (l : Launch) (G : GT) (a : Nat → Nat) (S : SX) (p0 : Int32) (p1 : Int32) (h0 : vp_in p0 6) (r1 : ¬ p1 < (1 : Int32)) (q1 : p1 ≤ (31 : Int32)) : WR l G yX0_withDayOfMonth cX0_withDayOfMonth 3 (some .int) 8 0 0 [.ref (a 0), .int p0, .int p1] (wX G a S) (wX G a (gX0_withDayOfMonth S p0 p1).2) (some (.int (gX0_withDayOfMonth S p0 p1).1)) := by
  refine WR.ofW (own := RX0) rfl (by decide +kernel) (Nat.le_of_ble_eq_true rfl) ?_
  intro p e s m below meth c A C hr hk hnm hE hP hD hA hAB hS ls hl
  have hx := C.1
  have hb := C.2.1
  have hown := C.2.2.2.1
  have hw := C.2.2.2.2
  have hl : lv_has ls 3 [(0, .ref (a 0)), (1, .int p0), (2, .int p1)] := hl
  refine lv_iload_n hx hb dX0_withDayOfMonth_0 rfl (lv_at hl 1 rfl) ?_
  refine rcSv (as := [.int p0]) (rest := []) C (c_X0_checkMoment l G p0 h0) F_X0_checkMoment rfl bw387 bw388 (hE.S hS hAB) vpn hl.1 dX0_withDayOfMonth_1 ⟨Nat.le_of_ble_eq_true rfl, Nat.le_of_ble_eq_true rfl⟩ rfl (Nat.le_of_ble_eq_true rfl) ⟨Nat.le_of_ble_eq_true rfl, Nat.le_of_ble_eq_true rfl⟩ ?_
  refine lv_iload_n hx hb dX0_withDayOfMonth_4 rfl (lv_at hl 2 rfl) ?_
  refine lv_iconst (v := (1 : Int32)) hx hb dX0_withDayOfMonth_5 (by decide) ?_
  refine lv_bipush (v := (31 : Int32)) hx hb dX0_withDayOfMonth_6 (by decide) ?_
  refine rcSv (as := [.int p1, .int (1 : Int32), .int (31 : Int32)]) (rest := []) C (c_X0_checkRange l G p1 (1 : Int32) (31 : Int32) r1 q1) F_X0_checkRange rfl bw308 bw309 (hE.S hS hAB) vpn hl.1 dX0_withDayOfMonth_8 ⟨Nat.le_of_ble_eq_true rfl, Nat.le_of_ble_eq_true rfl⟩ rfl (Nat.le_of_ble_eq_true rfl) ⟨Nat.le_of_ble_eq_true rfl, Nat.le_of_ble_eq_true rfl⟩ ?_
  refine lv_aload_n hx hb dX0_withDayOfMonth_11 rfl (lv_at hl 0 rfl) ?_
  refine lv_iload_n hx hb dX0_withDayOfMonth_12 rfl (lv_at hl 1 rfl) ?_
  refine lv_aload_n hx hb dX0_withDayOfMonth_13 rfl (lv_at hl 0 rfl) ?_
  refine va_get (D := gD G) (cl := vwCl) (tys := gT G) (ci := 2) (v := .ref (a 1)) (C := RX0) (T := TX0) (N := 12) hx hb hw inB_X0 hown hE.K hP 0 rfl rfl 0 (by decide) (hw _ bw94) (fun _ h9 => h9) rfl dX0_withDayOfMonth_14 ?_
  refine lv_iload_n hx hb dX0_withDayOfMonth_17 rfl (lv_at hl 1 rfl) ?_
  refine va_iald (tys := gT G) hx hb hE.K hP 1 0 rfl rfl h0 dX0_withDayOfMonth_18 ?_
  refine lv_aload_n hx hb dX0_withDayOfMonth_19 rfl (lv_at hl 0 rfl) ?_
  refine va_get (D := gD G) (cl := vwCl) (tys := gT G) (ci := 2) (v := .ref (a 2)) (C := RX0) (T := TX0) (N := 12) hx hb hw inB_X0 hown hE.K hP 0 rfl rfl 1 (by decide) (hw _ bw95) (fun _ h9 => h9) rfl dX0_withDayOfMonth_20 ?_
  refine lv_iload_n hx hb dX0_withDayOfMonth_23 rfl (lv_at hl 1 rfl) ?_
  refine va_iald (tys := gT G) hx hb hE.K hP 2 0 rfl rfl h0 dX0_withDayOfMonth_24 ?_
  refine lv_iload_n hx hb dX0_withDayOfMonth_25 rfl (lv_at hl 2 rfl) ?_
  refine lv_aload_n hx hb dX0_withDayOfMonth_26 rfl (lv_at hl 0 rfl) ?_
  refine va_get (D := gD G) (cl := vwCl) (tys := gT G) (ci := 2) (v := .ref (a 5)) (C := RX0) (T := TX0) (N := 12) hx hb hw inB_X0 hown hE.K hP 0 rfl rfl 4 (by decide) (hw _ bw98) (fun _ h9 => h9) rfl dX0_withDayOfMonth_27 ?_
  refine lv_iload_n hx hb dX0_withDayOfMonth_30 rfl (lv_at hl 1 rfl) ?_
  refine va_lald (tys := gT G) hx hb hE.K hP 5 1 rfl rfl h0 dX0_withDayOfMonth_31 ?_
  refine wcVi (as := [.int p0, .int ((xy S) p0.toNatClampNeg), .int ((xm S) p0.toNatClampNeg), .int p1, .long ((xN S) p0.toNatClampNeg)]) (rest := []) (cl := RX0) C (c_X0_becomeDate l G a S p0 ((xy S) p0.toNatClampNeg) ((xm S) p0.toNatClampNeg) p1 ((xN S) p0.toNatClampNeg) h0) F_X0_becomeDate rfl bw410 bw412 bw19 (hE.S hS hAB) hP hD hS hA hAB (va_recv hE.K hP (ci := 2) (q0 := 0) rfl rfl) hl.1 dX0_withDayOfMonth_32 ⟨Nat.le_of_ble_eq_true rfl, Nat.le_of_ble_eq_true rfl⟩ rfl (Nat.le_of_ble_eq_true rfl) ⟨Nat.le_of_ble_eq_true rfl, Nat.le_of_ble_eq_true rfl⟩ (fun H locs hP hD hS => ?_)
  exact we_i (wf := wX G a) hx hb hr hk hP hD hS (Nat.le_of_ble_eq_true rfl) (Nat.le_of_ble_eq_true rfl) dX0_withDayOfMonth_35 rfl

set_option maxRecDepth 100000 in
set_option maxHeartbeats 4000000 in
theorem c_X0_withDayOfYear (l : Launch) (G : GT) (a : Nat → Nat) (S : SX) (p0 : Int32) (p1 : Int32) (h0 : vp_in p0 6) (r1 : ¬ p1 < (1 : Int32)) (q1 : p1 ≤ (366 : Int32)) : WR l G yX0_withDayOfYear cX0_withDayOfYear 3 (some .int) 8 0 0 [.ref (a 0), .int p0, .int p1] (wX G a S) (wX G a (gX0_withDayOfYear S p0 p1).2) (some (.int (gX0_withDayOfYear S p0 p1).1)) := by
  refine WR.ofW (own := RX0) rfl (by decide +kernel) (Nat.le_of_ble_eq_true rfl) ?_
  intro p e s m below meth c A C hr hk hnm hE hP hD hA hAB hS ls hl
  have hx := C.1
  have hb := C.2.1
  have hown := C.2.2.2.1
  have hw := C.2.2.2.2
  have hl : lv_has ls 3 [(0, .ref (a 0)), (1, .int p0), (2, .int p1)] := hl
  refine lv_iload_n hx hb dX0_withDayOfYear_0 rfl (lv_at hl 1 rfl) ?_
  refine rcSv (as := [.int p0]) (rest := []) C (c_X0_checkMoment l G p0 h0) F_X0_checkMoment rfl bw387 bw388 (hE.S hS hAB) vpn hl.1 dX0_withDayOfYear_1 ⟨Nat.le_of_ble_eq_true rfl, Nat.le_of_ble_eq_true rfl⟩ rfl (Nat.le_of_ble_eq_true rfl) ⟨Nat.le_of_ble_eq_true rfl, Nat.le_of_ble_eq_true rfl⟩ ?_
  refine lv_iload_n hx hb dX0_withDayOfYear_4 rfl (lv_at hl 2 rfl) ?_
  refine lv_iconst (v := (1 : Int32)) hx hb dX0_withDayOfYear_5 (by decide) ?_
  refine lv_sipush (v := (366 : Int32)) hx hb dX0_withDayOfYear_6 (by decide) ?_
  refine rcSv (as := [.int p1, .int (1 : Int32), .int (366 : Int32)]) (rest := []) C (c_X0_checkRange l G p1 (1 : Int32) (366 : Int32) r1 q1) F_X0_checkRange rfl bw308 bw309 (hE.S hS hAB) vpn hl.1 dX0_withDayOfYear_9 ⟨Nat.le_of_ble_eq_true rfl, Nat.le_of_ble_eq_true rfl⟩ rfl (Nat.le_of_ble_eq_true rfl) ⟨Nat.le_of_ble_eq_true rfl, Nat.le_of_ble_eq_true rfl⟩ ?_
  refine lv_iload_n hx hb dX0_withDayOfYear_12 rfl (lv_at hl 2 rfl) ?_
  refine lv_aload_n hx hb dX0_withDayOfYear_13 rfl (lv_at hl 0 rfl) ?_
  refine va_get (D := gD G) (cl := vwCl) (tys := gT G) (ci := 2) (v := .ref (a 1)) (C := RX0) (T := TX0) (N := 12) hx hb hw inB_X0 hown hE.K hP 0 rfl rfl 0 (by decide) (hw _ bw94) (fun _ h9 => h9) rfl dX0_withDayOfYear_14 ?_
  refine lv_iload_n hx hb dX0_withDayOfYear_17 rfl (lv_at hl 1 rfl) ?_
  refine va_iald (tys := gT G) hx hb hE.K hP 1 0 rfl rfl h0 dX0_withDayOfYear_18 ?_
  refine rcSi (as := [.int ((xy S) p0.toNatClampNeg)]) (rest := [.int p1]) C (c_X0_yearLength l G ((xy S) p0.toNatClampNeg)) F_X0_yearLength rfl bw496 bw497 (hE.S hS hAB) vpn hl.1 dX0_withDayOfYear_19 ⟨Nat.le_of_ble_eq_true rfl, Nat.le_of_ble_eq_true rfl⟩ rfl (Nat.le_of_ble_eq_true rfl) ⟨Nat.le_of_ble_eq_true rfl, Nat.le_of_ble_eq_true rfl⟩ ?_
  refine lv_icmp_le (tgt := 30) hx hb dX0_withDayOfYear_22 (by decide) (fun c_1 => ?_) (fun c_1 => ?_)
  · refine lv_aload_n hx hb dX0_withDayOfYear_30 rfl (lv_at hl 0 rfl) ?_
    refine lv_iload_n hx hb dX0_withDayOfYear_31 rfl (lv_at hl 1 rfl) ?_
    refine lv_aload_n hx hb dX0_withDayOfYear_32 rfl (lv_at hl 0 rfl) ?_
    refine va_get (D := gD G) (cl := vwCl) (tys := gT G) (ci := 2) (v := .ref (a 1)) (C := RX0) (T := TX0) (N := 12) hx hb hw inB_X0 hown hE.K hP 0 rfl rfl 0 (by decide) (hw _ bw94) (fun _ h9 => h9) rfl dX0_withDayOfYear_33 ?_
    refine lv_iload_n hx hb dX0_withDayOfYear_36 rfl (lv_at hl 1 rfl) ?_
    refine va_iald (tys := gT G) hx hb hE.K hP 1 0 rfl rfl h0 dX0_withDayOfYear_37 ?_
    refine rcSl (as := [.int ((xy S) p0.toNatClampNeg)]) (rest := [.int p0, .ref (a 0)]) C (c_X0_firstDayOf l G ((xy S) p0.toNatClampNeg)) F_X0_firstDayOf rfl bw86 bw87 (hE.S hS hAB) vpn hl.1 dX0_withDayOfYear_38 ⟨Nat.le_of_ble_eq_true rfl, Nat.le_of_ble_eq_true rfl⟩ rfl (Nat.le_of_ble_eq_true rfl) ⟨Nat.le_of_ble_eq_true rfl, Nat.le_of_ble_eq_true rfl⟩ ?_
    refine lv_iload_n hx hb dX0_withDayOfYear_41 rfl (lv_at hl 2 rfl) ?_
    refine lv_i2l (v := (p1.toInt64)) hx hb dX0_withDayOfYear_42 (by first | rfl | decide) ?_
    refine lv_ladd hx hb dX0_withDayOfYear_43 ?_
    refine lv_lconst (v := (1 : Int64)) hx hb dX0_withDayOfYear_44 (by decide) ?_
    refine lv_lsub hx hb dX0_withDayOfYear_45 ?_
    refine lv_aload_n hx hb dX0_withDayOfYear_46 rfl (lv_at hl 0 rfl) ?_
    refine va_get (D := gD G) (cl := vwCl) (tys := gT G) (ci := 2) (v := .ref (a 5)) (C := RX0) (T := TX0) (N := 12) hx hb hw inB_X0 hown hE.K hP 0 rfl rfl 4 (by decide) (hw _ bw98) (fun _ h9 => h9) rfl dX0_withDayOfYear_47 ?_
    refine lv_iload_n hx hb dX0_withDayOfYear_50 rfl (lv_at hl 1 rfl) ?_
    refine va_lald (tys := gT G) hx hb hE.K hP 5 1 rfl rfl h0 dX0_withDayOfYear_51 ?_
    refine wcVi (as := [.int p0, .long (((fX0_firstDayOf ((xy S) p0.toNatClampNeg)) + (p1.toInt64)) - (1 : Int64)), .long ((xN S) p0.toNatClampNeg)]) (rest := []) (cl := RX0) C (c_X0_becomeDay l G a S p0 (((fX0_firstDayOf ((xy S) p0.toNatClampNeg)) + (p1.toInt64)) - (1 : Int64)) ((xN S) p0.toNatClampNeg) h0) F_X0_becomeDay rfl bw427 bw429 bw21 (hE.S hS hAB) hP hD hS hA hAB (va_recv hE.K hP (ci := 2) (q0 := 0) rfl rfl) hl.1 dX0_withDayOfYear_52 ⟨Nat.le_of_ble_eq_true rfl, Nat.le_of_ble_eq_true rfl⟩ rfl (Nat.le_of_ble_eq_true rfl) ⟨Nat.le_of_ble_eq_true rfl, Nat.le_of_ble_eq_true rfl⟩ (fun H locs hP hD hS => ?_)
    exact we_i (wf := wX G a) hx hb hr hk hP hD hS (Nat.le_of_ble_eq_true rfl) (Nat.le_of_ble_eq_true rfl) dX0_withDayOfYear_55 (if_pos c_1)
  · refine lv_aload_n hx hb dX0_withDayOfYear_25 rfl (lv_at hl 0 rfl) ?_
    refine wcVi (as := []) (rest := []) (cl := RX0) C (c_X0_refuse l G a S) F_X0_refuse rfl bw414 bw416 bw20 (hE.S hS hAB) hP hD hS hA hAB (va_recv hE.K hP (ci := 2) (q0 := 0) rfl rfl) hl.1 dX0_withDayOfYear_26 ⟨Nat.le_of_ble_eq_true rfl, Nat.le_of_ble_eq_true rfl⟩ rfl (Nat.le_of_ble_eq_true rfl) ⟨Nat.le_of_ble_eq_true rfl, Nat.le_of_ble_eq_true rfl⟩ (fun H locs hP hD hS => ?_)
    exact we_i (wf := wX G a) hx hb hr hk hP hD hS (Nat.le_of_ble_eq_true rfl) (Nat.le_of_ble_eq_true rfl) dX0_withDayOfYear_29 (if_neg c_1)

set_option maxRecDepth 100000 in
set_option maxHeartbeats 4000000 in
theorem c_X0_withHour (l : Launch) (G : GT) (a : Nat → Nat) (S : SX) (p0 : Int32) (p1 : Int32) (h0 : vp_in p0 6) (r1 : ¬ p1 < (0 : Int32)) (q1 : p1 ≤ (23 : Int32)) : WR l G yX0_withHour cX0_withHour 5 (some .int) 8 0 0 [.ref (a 0), .int p0, .int p1] (wX G a S) (wX G a (gX0_withHour S p0 p1).2) (some (.int (gX0_withHour S p0 p1).1)) := by
  refine WR.ofW (own := RX0) rfl (by decide +kernel) (Nat.le_of_ble_eq_true rfl) ?_
  intro p e s m below meth c A C hr hk hnm hE hP hD hA hAB hS ls hl
  have hx := C.1
  have hb := C.2.1
  have hown := C.2.2.2.1
  have hw := C.2.2.2.2
  have hl : lv_has ls 5 [(0, .ref (a 0)), (1, .int p0), (2, .int p1)] := hl
  refine lv_iload_n hx hb dX0_withHour_0 rfl (lv_at hl 1 rfl) ?_
  refine rcSv (as := [.int p0]) (rest := []) C (c_X0_checkMoment l G p0 h0) F_X0_checkMoment rfl bw387 bw388 (hE.S hS hAB) vpn hl.1 dX0_withHour_1 ⟨Nat.le_of_ble_eq_true rfl, Nat.le_of_ble_eq_true rfl⟩ rfl (Nat.le_of_ble_eq_true rfl) ⟨Nat.le_of_ble_eq_true rfl, Nat.le_of_ble_eq_true rfl⟩ ?_
  refine lv_iload_n hx hb dX0_withHour_4 rfl (lv_at hl 2 rfl) ?_
  refine lv_iconst (v := (0 : Int32)) hx hb dX0_withHour_5 (by decide) ?_
  refine lv_bipush (v := (23 : Int32)) hx hb dX0_withHour_6 (by decide) ?_
  refine rcSv (as := [.int p1, .int (0 : Int32), .int (23 : Int32)]) (rest := []) C (c_X0_checkRange l G p1 (0 : Int32) (23 : Int32) r1 q1) F_X0_checkRange rfl bw308 bw309 (hE.S hS hAB) vpn hl.1 dX0_withHour_8 ⟨Nat.le_of_ble_eq_true rfl, Nat.le_of_ble_eq_true rfl⟩ rfl (Nat.le_of_ble_eq_true rfl) ⟨Nat.le_of_ble_eq_true rfl, Nat.le_of_ble_eq_true rfl⟩ ?_
  refine lv_aload_n hx hb dX0_withHour_11 rfl (lv_at hl 0 rfl) ?_
  refine va_get (D := gD G) (cl := vwCl) (tys := gT G) (ci := 2) (v := .ref (a 5)) (C := RX0) (T := TX0) (N := 12) hx hb hw inB_X0 hown hE.K hP 0 rfl rfl 4 (by decide) (hw _ bw98) (fun _ h9 => h9) rfl dX0_withHour_12 ?_
  refine lv_iload_n hx hb dX0_withHour_15 rfl (lv_at hl 1 rfl) ?_
  refine va_lald (tys := gT G) hx hb hE.K hP 5 1 rfl rfl h0 dX0_withHour_16 ?_
  refine lv_lstore_n (lv' := [(3, .long ((xN S) p0.toNatClampNeg)), (0, .ref (a 0)), (1, .int p0), (2, .int p1)]) hx hb dX0_withHour_17 rfl hl (Nat.le_of_ble_eq_true rfl) rfl (fun ls hl => ?_)
  refine lv_aload_n hx hb dX0_withHour_18 rfl (lv_at hl 1 rfl) ?_
  refine lv_iload_n hx hb dX0_withHour_19 rfl (lv_at hl 2 rfl) ?_
  refine lv_iload_n hx hb dX0_withHour_20 rfl (lv_at hl 2 rfl) ?_
  refine lv_lload_n hx hb dX0_withHour_21 rfl (lv_at hl 0 rfl) ?_
  refine lv_iload_n hx hb dX0_withHour_22 rfl (lv_at hl 3 rfl) ?_
  refine lv_lload_n hx hb dX0_withHour_23 rfl (lv_at hl 0 rfl) ?_
  refine rcSi (as := [.long ((xN S) p0.toNatClampNeg)]) (rest := [.int p1, .long ((xN S) p0.toNatClampNeg), .int p0, .int p0, .ref (a 0)]) C (c_X0_hourOf l G ((xN S) p0.toNatClampNeg)) F_X0_hourOf rfl bw149 bw150 (hE.S hS hAB) vpn hl.1 dX0_withHour_24 ⟨Nat.le_of_ble_eq_true rfl, Nat.le_of_ble_eq_true rfl⟩ rfl (Nat.le_of_ble_eq_true rfl) ⟨Nat.le_of_ble_eq_true rfl, Nat.le_of_ble_eq_true rfl⟩ ?_
  refine lv_isub hx hb dX0_withHour_27 ?_
  refine lv_i2l (v := ((p1 - (fX0_hourOf ((xN S) p0.toNatClampNeg))).toInt64)) hx hb dX0_withHour_28 (by first | rfl | decide) ?_
  refine lv_ldc2 (v := (3600000000000 : Int64)) hx hb hown (hw _ bw152) dX0_withHour_29 ?_
  refine lv_lmul hx hb dX0_withHour_32 ?_
  refine lv_ladd hx hb dX0_withHour_33 ?_
  refine wcVi (as := [.int p0, .int p0, .long (((xN S) p0.toNatClampNeg) + (((p1 - (fX0_hourOf ((xN S) p0.toNatClampNeg))).toInt64) * (3600000000000 : Int64)))]) (rest := []) (cl := RX0) C (c_X0_becomeAs l G a S p0 p0 (((xN S) p0.toNatClampNeg) + (((p1 - (fX0_hourOf ((xN S) p0.toNatClampNeg))).toInt64) * (3600000000000 : Int64))) h0 h0) F_X0_becomeAs rfl bw446 bw448 bw22 (hE.S hS hAB) hP hD hS hA hAB (va_recv hE.K hP (ci := 2) (q0 := 0) rfl rfl) hl.1 dX0_withHour_34 ⟨Nat.le_of_ble_eq_true rfl, Nat.le_of_ble_eq_true rfl⟩ rfl (Nat.le_of_ble_eq_true rfl) ⟨Nat.le_of_ble_eq_true rfl, Nat.le_of_ble_eq_true rfl⟩ (fun H locs hP hD hS => ?_)
  exact we_i (wf := wX G a) hx hb hr hk hP hD hS (Nat.le_of_ble_eq_true rfl) (Nat.le_of_ble_eq_true rfl) dX0_withHour_37 rfl

set_option maxRecDepth 100000 in
set_option maxHeartbeats 4000000 in
theorem c_X0_withMinute (l : Launch) (G : GT) (a : Nat → Nat) (S : SX) (p0 : Int32) (p1 : Int32) (h0 : vp_in p0 6) (r1 : ¬ p1 < (0 : Int32)) (q1 : p1 ≤ (59 : Int32)) : WR l G yX0_withMinute cX0_withMinute 5 (some .int) 8 0 0 [.ref (a 0), .int p0, .int p1] (wX G a S) (wX G a (gX0_withMinute S p0 p1).2) (some (.int (gX0_withMinute S p0 p1).1)) := by
  refine WR.ofW (own := RX0) rfl (by decide +kernel) (Nat.le_of_ble_eq_true rfl) ?_
  intro p e s m below meth c A C hr hk hnm hE hP hD hA hAB hS ls hl
  have hx := C.1
  have hb := C.2.1
  have hown := C.2.2.2.1
  have hw := C.2.2.2.2
  have hl : lv_has ls 5 [(0, .ref (a 0)), (1, .int p0), (2, .int p1)] := hl
  refine lv_iload_n hx hb dX0_withMinute_0 rfl (lv_at hl 1 rfl) ?_
  refine rcSv (as := [.int p0]) (rest := []) C (c_X0_checkMoment l G p0 h0) F_X0_checkMoment rfl bw387 bw388 (hE.S hS hAB) vpn hl.1 dX0_withMinute_1 ⟨Nat.le_of_ble_eq_true rfl, Nat.le_of_ble_eq_true rfl⟩ rfl (Nat.le_of_ble_eq_true rfl) ⟨Nat.le_of_ble_eq_true rfl, Nat.le_of_ble_eq_true rfl⟩ ?_
  refine lv_iload_n hx hb dX0_withMinute_4 rfl (lv_at hl 2 rfl) ?_
  refine lv_iconst (v := (0 : Int32)) hx hb dX0_withMinute_5 (by decide) ?_
  refine lv_bipush (v := (59 : Int32)) hx hb dX0_withMinute_6 (by decide) ?_
  refine rcSv (as := [.int p1, .int (0 : Int32), .int (59 : Int32)]) (rest := []) C (c_X0_checkRange l G p1 (0 : Int32) (59 : Int32) r1 q1) F_X0_checkRange rfl bw308 bw309 (hE.S hS hAB) vpn hl.1 dX0_withMinute_8 ⟨Nat.le_of_ble_eq_true rfl, Nat.le_of_ble_eq_true rfl⟩ rfl (Nat.le_of_ble_eq_true rfl) ⟨Nat.le_of_ble_eq_true rfl, Nat.le_of_ble_eq_true rfl⟩ ?_
  refine lv_aload_n hx hb dX0_withMinute_11 rfl (lv_at hl 0 rfl) ?_
  refine va_get (D := gD G) (cl := vwCl) (tys := gT G) (ci := 2) (v := .ref (a 5)) (C := RX0) (T := TX0) (N := 12) hx hb hw inB_X0 hown hE.K hP 0 rfl rfl 4 (by decide) (hw _ bw98) (fun _ h9 => h9) rfl dX0_withMinute_12 ?_
  refine lv_iload_n hx hb dX0_withMinute_15 rfl (lv_at hl 1 rfl) ?_
  refine va_lald (tys := gT G) hx hb hE.K hP 5 1 rfl rfl h0 dX0_withMinute_16 ?_
  refine lv_lstore_n (lv' := [(3, .long ((xN S) p0.toNatClampNeg)), (0, .ref (a 0)), (1, .int p0), (2, .int p1)]) hx hb dX0_withMinute_17 rfl hl (Nat.le_of_ble_eq_true rfl) rfl (fun ls hl => ?_)
  refine lv_aload_n hx hb dX0_withMinute_18 rfl (lv_at hl 1 rfl) ?_
  refine lv_iload_n hx hb dX0_withMinute_19 rfl (lv_at hl 2 rfl) ?_
  refine lv_iload_n hx hb dX0_withMinute_20 rfl (lv_at hl 2 rfl) ?_
  refine lv_lload_n hx hb dX0_withMinute_21 rfl (lv_at hl 0 rfl) ?_
  refine lv_iload_n hx hb dX0_withMinute_22 rfl (lv_at hl 3 rfl) ?_
  refine lv_lload_n hx hb dX0_withMinute_23 rfl (lv_at hl 0 rfl) ?_
  refine rcSi (as := [.long ((xN S) p0.toNatClampNeg)]) (rest := [.int p1, .long ((xN S) p0.toNatClampNeg), .int p0, .int p0, .ref (a 0)]) C (c_X0_minuteOf l G ((xN S) p0.toNatClampNeg)) F_X0_minuteOf rfl bw153 bw154 (hE.S hS hAB) vpn hl.1 dX0_withMinute_24 ⟨Nat.le_of_ble_eq_true rfl, Nat.le_of_ble_eq_true rfl⟩ rfl (Nat.le_of_ble_eq_true rfl) ⟨Nat.le_of_ble_eq_true rfl, Nat.le_of_ble_eq_true rfl⟩ ?_
  refine lv_isub hx hb dX0_withMinute_27 ?_
  refine lv_i2l (v := ((p1 - (fX0_minuteOf ((xN S) p0.toNatClampNeg))).toInt64)) hx hb dX0_withMinute_28 (by first | rfl | decide) ?_
  refine lv_ldc2 (v := (60000000000 : Int64)) hx hb hown (hw _ bw156) dX0_withMinute_29 ?_
  refine lv_lmul hx hb dX0_withMinute_32 ?_
  refine lv_ladd hx hb dX0_withMinute_33 ?_
  refine wcVi (as := [.int p0, .int p0, .long (((xN S) p0.toNatClampNeg) + (((p1 - (fX0_minuteOf ((xN S) p0.toNatClampNeg))).toInt64) * (60000000000 : Int64)))]) (rest := []) (cl := RX0) C (c_X0_becomeAs l G a S p0 p0 (((xN S) p0.toNatClampNeg) + (((p1 - (fX0_minuteOf ((xN S) p0.toNatClampNeg))).toInt64) * (60000000000 : Int64))) h0 h0) F_X0_becomeAs rfl bw446 bw448 bw22 (hE.S hS hAB) hP hD hS hA hAB (va_recv hE.K hP (ci := 2) (q0 := 0) rfl rfl) hl.1 dX0_withMinute_34 ⟨Nat.le_of_ble_eq_true rfl, Nat.le_of_ble_eq_true rfl⟩ rfl (Nat.le_of_ble_eq_true rfl) ⟨Nat.le_of_ble_eq_true rfl, Nat.le_of_ble_eq_true rfl⟩ (fun H locs hP hD hS => ?_)
  exact we_i (wf := wX G a) hx hb hr hk hP hD hS (Nat.le_of_ble_eq_true rfl) (Nat.le_of_ble_eq_true rfl) dX0_withMinute_37 rfl

