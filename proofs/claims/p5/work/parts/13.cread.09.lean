set_option maxRecDepth 100000 in
set_option maxHeartbeats 4000000 in
theorem c_X0_isItsParts (l : Launch) (G : GT) (a : Nat → Nat) (S : SX) (p0 : Int32) (h0 : vp_in p0 6) : RO l G yX0_isItsParts cX0_isItsParts 6 (some .boolean) 4 [.ref (a 0), .int p0] (wX G a S) (some (.int (fX0_isItsParts S p0))) := by
  refine RO.ofW (own := RX0) rfl (by decide +kernel) (Nat.le_of_ble_eq_true rfl) ?_
  intro p e s m below meth c C hr hk hE hP ls hl
  have hx := C.1
  have hb := C.2.1
  have hown := C.2.2.2.1
  have hw := C.2.2.2.2
  have hl : lv_has ls 6 [(0, .ref (a 0)), (1, .int p0)] := hl
  refine lv_aload_n hx hb dX0_isItsParts_0 rfl (lv_at hl 0 rfl) ?_
  refine va_get (D := gD G) (cl := vwCl) (tys := gT G) (ci := 2) (v := .ref (a 5)) (C := RX0) (T := TX0) (N := 12) hx hb hw inB_X0 hown hE.K hP 0 rfl rfl 4 (by decide) (hw _ bw98) (fun _ h9 => h9) rfl dX0_isItsParts_1 ?_
  refine lv_iload_n hx hb dX0_isItsParts_4 rfl (lv_at hl 1 rfl) ?_
  refine va_lald (tys := gT G) hx hb hE.K hP 5 1 rfl rfl h0 dX0_isItsParts_5 ?_
  refine lv_lstore_n (lv' := [(2, .long (xN S p0.toNatClampNeg)), (0, .ref (a 0)), (1, .int p0)]) hx hb dX0_isItsParts_6 rfl hl (Nat.le_of_ble_eq_true rfl) rfl (fun ls hl => ?_)
  refine lv_lload_n hx hb dX0_isItsParts_7 rfl (lv_at hl 0 rfl) ?_
  refine rcSi (as := [.long (xN S p0.toNatClampNeg)]) (rest := []) C (c_X0_hourOf l G (xN S p0.toNatClampNeg)) F_X0_hourOf rfl bw149 bw150 hE vpn hl.1 dX0_isItsParts_8 ⟨Nat.le_of_ble_eq_true rfl, Nat.le_of_ble_eq_true rfl⟩ rfl (Nat.le_of_ble_eq_true rfl) ⟨Nat.zero_le _, Nat.zero_le _⟩ ?_
  refine lv_lload_n hx hb dX0_isItsParts_11 rfl (lv_at hl 0 rfl) ?_
  refine rcSi (as := [.long (xN S p0.toNatClampNeg)]) (rest := [.int (fX0_hourOf (xN S p0.toNatClampNeg))]) C (c_X0_minuteOf l G (xN S p0.toNatClampNeg)) F_X0_minuteOf rfl bw153 bw154 hE vpn hl.1 dX0_isItsParts_12 ⟨Nat.le_of_ble_eq_true rfl, Nat.le_of_ble_eq_true rfl⟩ rfl (Nat.le_of_ble_eq_true rfl) ⟨Nat.zero_le _, Nat.zero_le _⟩ ?_
  refine lv_lload_n hx hb dX0_isItsParts_15 rfl (lv_at hl 0 rfl) ?_
  refine rcSi (as := [.long (xN S p0.toNatClampNeg)]) (rest := [.int (fX0_minuteOf (xN S p0.toNatClampNeg)), .int (fX0_hourOf (xN S p0.toNatClampNeg))]) C (c_X0_secondOf l G (xN S p0.toNatClampNeg)) F_X0_secondOf rfl bw157 bw158 hE vpn hl.1 dX0_isItsParts_16 ⟨Nat.le_of_ble_eq_true rfl, Nat.le_of_ble_eq_true rfl⟩ rfl (Nat.le_of_ble_eq_true rfl) ⟨Nat.zero_le _, Nat.zero_le _⟩ ?_
  refine lv_lload_n hx hb dX0_isItsParts_19 rfl (lv_at hl 0 rfl) ?_
  refine rcSi (as := [.long (xN S p0.toNatClampNeg)]) (rest := [.int (fX0_secondOf (xN S p0.toNatClampNeg)), .int (fX0_minuteOf (xN S p0.toNatClampNeg)), .int (fX0_hourOf (xN S p0.toNatClampNeg))]) C (c_X0_nanoOfSecond l G (xN S p0.toNatClampNeg)) F_X0_nanoOfSecond rfl bw161 bw162 hE vpn hl.1 dX0_isItsParts_20 ⟨Nat.le_of_ble_eq_true rfl, Nat.le_of_ble_eq_true rfl⟩ rfl (Nat.le_of_ble_eq_true rfl) ⟨Nat.zero_le _, Nat.zero_le _⟩ ?_
  refine rcSl (as := [.int (fX0_hourOf (xN S p0.toNatClampNeg)), .int (fX0_minuteOf (xN S p0.toNatClampNeg)), .int (fX0_secondOf (xN S p0.toNatClampNeg)), .int (fX0_nanoOfSecond (xN S p0.toNatClampNeg))]) (rest := []) C (c_X0_timeOf l G (fX0_hourOf (xN S p0.toNatClampNeg)) (fX0_minuteOf (xN S p0.toNatClampNeg)) (fX0_secondOf (xN S p0.toNatClampNeg)) (fX0_nanoOfSecond (xN S p0.toNatClampNeg))) F_X0_timeOf rfl bw164 bw165 hE vpn hl.1 dX0_isItsParts_23 ⟨Nat.le_of_ble_eq_true rfl, Nat.le_of_ble_eq_true rfl⟩ rfl (Nat.le_of_ble_eq_true rfl) ⟨Nat.zero_le _, Nat.zero_le _⟩ ?_
  refine lv_lstore (lv' := [(4, .long (fX0_timeOf (fX0_hourOf (xN S p0.toNatClampNeg)) (fX0_minuteOf (xN S p0.toNatClampNeg)) (fX0_secondOf (xN S p0.toNatClampNeg)) (fX0_nanoOfSecond (xN S p0.toNatClampNeg)))), (2, .long (xN S p0.toNatClampNeg)), (0, .ref (a 0)), (1, .int p0)]) hx hb dX0_isItsParts_26 hl (Nat.le_of_ble_eq_true rfl) rfl (fun ls hl => ?_)
  refine lv_aload_n hx hb dX0_isItsParts_28 rfl (lv_at hl 2 rfl) ?_
  refine va_get (D := gD G) (cl := vwCl) (tys := gT G) (ci := 2) (v := .ref (a 1)) (C := RX0) (T := TX0) (N := 12) hx hb hw inB_X0 hown hE.K hP 0 rfl rfl 0 (by decide) (hw _ bw94) (fun _ h9 => h9) rfl dX0_isItsParts_29 ?_
  refine lv_iload_n hx hb dX0_isItsParts_32 rfl (lv_at hl 3 rfl) ?_
  refine va_iald (tys := gT G) hx hb hE.K hP 1 0 rfl rfl h0 dX0_isItsParts_33 ?_
  refine lv_aload_n hx hb dX0_isItsParts_34 rfl (lv_at hl 2 rfl) ?_
  refine va_get (D := gD G) (cl := vwCl) (tys := gT G) (ci := 2) (v := .ref (a 2)) (C := RX0) (T := TX0) (N := 12) hx hb hw inB_X0 hown hE.K hP 0 rfl rfl 1 (by decide) (hw _ bw95) (fun _ h9 => h9) rfl dX0_isItsParts_35 ?_
  refine lv_iload_n hx hb dX0_isItsParts_38 rfl (lv_at hl 3 rfl) ?_
  refine va_iald (tys := gT G) hx hb hE.K hP 2 0 rfl rfl h0 dX0_isItsParts_39 ?_
  refine lv_aload_n hx hb dX0_isItsParts_40 rfl (lv_at hl 2 rfl) ?_
  refine va_get (D := gD G) (cl := vwCl) (tys := gT G) (ci := 2) (v := .ref (a 3)) (C := RX0) (T := TX0) (N := 12) hx hb hw inB_X0 hown hE.K hP 0 rfl rfl 2 (by decide) (hw _ bw96) (fun _ h9 => h9) rfl dX0_isItsParts_41 ?_
  refine lv_iload_n hx hb dX0_isItsParts_44 rfl (lv_at hl 3 rfl) ?_
  refine va_iald (tys := gT G) hx hb hE.K hP 3 0 rfl rfl h0 dX0_isItsParts_45 ?_
  refine rcSl (as := [.int (xy S p0.toNatClampNeg), .int (xm S p0.toNatClampNeg), .int (xd S p0.toNatClampNeg)]) (rest := []) C (c_X0_dayOf l G (xy S p0.toNatClampNeg) (xm S p0.toNatClampNeg) (xd S p0.toNatClampNeg)) F_X0_dayOf rfl bw167 bw168 hE vpn hl.1 dX0_isItsParts_46 ⟨Nat.le_of_ble_eq_true rfl, Nat.le_of_ble_eq_true rfl⟩ rfl (Nat.le_of_ble_eq_true rfl) ⟨Nat.zero_le _, Nat.zero_le _⟩ ?_
  refine lv_aload_n hx hb dX0_isItsParts_49 rfl (lv_at hl 2 rfl) ?_
  refine va_get (D := gD G) (cl := vwCl) (tys := gT G) (ci := 2) (v := .ref (a 4)) (C := RX0) (T := TX0) (N := 12) hx hb hw inB_X0 hown hE.K hP 0 rfl rfl 3 (by decide) (hw _ bw97) (fun _ h9 => h9) rfl dX0_isItsParts_50 ?_
  refine lv_iload_n hx hb dX0_isItsParts_53 rfl (lv_at hl 3 rfl) ?_
  refine va_lald (tys := gT G) hx hb hE.K hP 4 1 rfl rfl h0 dX0_isItsParts_54 ?_
  refine W.lcmp hx hb dX0_isItsParts_55 ?_
  refine lv_if_ne (tgt := 70) hx hb dX0_isItsParts_56 (by decide) (fun c_1 => ?_) (fun c_1 => ?_)
  · refine lv_iconst (v := (0 : Int32)) hx hb dX0_isItsParts_70 (by decide) ?_
    exact re_z (ty := .boolean) hx hb hr hk (by decide) dX0_isItsParts_71 (ei (if_neg c_1))
  · refine lv_lload hx hb dX0_isItsParts_59 (lv_at hl 0 rfl) ?_
    refine lv_lload_n hx hb dX0_isItsParts_61 rfl (lv_at hl 1 rfl) ?_
    refine W.lcmp hx hb dX0_isItsParts_62 ?_
    refine lv_if_ne (tgt := 70) hx hb dX0_isItsParts_63 (by decide) (fun c_2 => ?_) (fun c_2 => ?_)
    · refine lv_iconst (v := (0 : Int32)) hx hb dX0_isItsParts_70 (by decide) ?_
      exact re_z (ty := .boolean) hx hb hr hk (by decide) dX0_isItsParts_71 (ei (Eq.trans (if_pos c_1) (if_neg c_2)))
    · refine lv_iconst (v := (1 : Int32)) hx hb dX0_isItsParts_66 (by decide) ?_
      refine lv_goto (tgt := 71) hx hb dX0_isItsParts_67 (by decide) ?_
      exact re_z (ty := .boolean) hx hb hr hk (by decide) dX0_isItsParts_71 (ei (Eq.trans (if_pos c_1) (if_pos c_2)))

set_option maxRecDepth 100000 in
set_option maxHeartbeats 4000000 in
theorem c_X0_isItsDateAndTime (l : Launch) (G : GT) (a : Nat → Nat) (S : SX) (p0 : Int32) (h0 : vp_in p0 6) : RO l G yX0_isItsDateAndTime cX0_isItsDateAndTime 6 (some .boolean) 4 [.ref (a 0), .int p0] (wX G a S) (some (.int (fX0_isItsDateAndTime S p0))) := by
  refine RO.ofW (own := RX0) rfl (by decide +kernel) (Nat.le_of_ble_eq_true rfl) ?_
  intro p e s m below meth c C hr hk hE hP ls hl
  have hx := C.1
  have hb := C.2.1
  have hown := C.2.2.2.1
  have hw := C.2.2.2.2
  have hl : lv_has ls 6 [(0, .ref (a 0)), (1, .int p0)] := hl
  refine lv_aload_n hx hb dX0_isItsDateAndTime_0 rfl (lv_at hl 0 rfl) ?_
  refine va_get (D := gD G) (cl := vwCl) (tys := gT G) (ci := 2) (v := .ref (a 5)) (C := RX0) (T := TX0) (N := 12) hx hb hw inB_X0 hown hE.K hP 0 rfl rfl 4 (by decide) (hw _ bw98) (fun _ h9 => h9) rfl dX0_isItsDateAndTime_1 ?_
  refine lv_iload_n hx hb dX0_isItsDateAndTime_4 rfl (lv_at hl 1 rfl) ?_
  refine va_lald (tys := gT G) hx hb hE.K hP 5 1 rfl rfl h0 dX0_isItsDateAndTime_5 ?_
  refine lv_lstore_n (lv' := [(2, .long (xN S p0.toNatClampNeg)), (0, .ref (a 0)), (1, .int p0)]) hx hb dX0_isItsDateAndTime_6 rfl hl (Nat.le_of_ble_eq_true rfl) rfl (fun ls hl => ?_)
  refine lv_lload_n hx hb dX0_isItsDateAndTime_7 rfl (lv_at hl 0 rfl) ?_
  refine lv_ldc2 (v := (1000000000 : Int64)) hx hb hown (hw _ bw160) dX0_isItsDateAndTime_8 ?_
  refine lv_ldiv hx hb dX0_isItsDateAndTime_11 (by decide) ?_
  refine lv_ldc2 (v := (1000000000 : Int64)) hx hb hown (hw _ bw160) dX0_isItsDateAndTime_12 ?_
  refine lv_lmul hx hb dX0_isItsDateAndTime_15 ?_
  refine lv_lload_n hx hb dX0_isItsDateAndTime_16 rfl (lv_at hl 0 rfl) ?_
  refine rcSi (as := [.long (xN S p0.toNatClampNeg)]) (rest := [.long (((xN S p0.toNatClampNeg) / (1000000000 : Int64)) * (1000000000 : Int64))]) C (c_X0_nanoOfSecond l G (xN S p0.toNatClampNeg)) F_X0_nanoOfSecond rfl bw161 bw162 hE vpn hl.1 dX0_isItsDateAndTime_17 ⟨Nat.le_of_ble_eq_true rfl, Nat.le_of_ble_eq_true rfl⟩ rfl (Nat.le_of_ble_eq_true rfl) ⟨Nat.zero_le _, Nat.zero_le _⟩ ?_
  refine lv_i2l (v := ((fX0_nanoOfSecond (xN S p0.toNatClampNeg)).toInt64)) hx hb dX0_isItsDateAndTime_20 (by first | rfl | decide) ?_
  refine lv_ladd hx hb dX0_isItsDateAndTime_21 ?_
  refine lv_lstore (lv' := [(4, .long ((((xN S p0.toNatClampNeg) / (1000000000 : Int64)) * (1000000000 : Int64)) + ((fX0_nanoOfSecond (xN S p0.toNatClampNeg)).toInt64))), (2, .long (xN S p0.toNatClampNeg)), (0, .ref (a 0)), (1, .int p0)]) hx hb dX0_isItsDateAndTime_22 hl (Nat.le_of_ble_eq_true rfl) rfl (fun ls hl => ?_)
  refine lv_aload_n hx hb dX0_isItsDateAndTime_24 rfl (lv_at hl 2 rfl) ?_
  refine va_get (D := gD G) (cl := vwCl) (tys := gT G) (ci := 2) (v := .ref (a 1)) (C := RX0) (T := TX0) (N := 12) hx hb hw inB_X0 hown hE.K hP 0 rfl rfl 0 (by decide) (hw _ bw94) (fun _ h9 => h9) rfl dX0_isItsDateAndTime_25 ?_
  refine lv_iload_n hx hb dX0_isItsDateAndTime_28 rfl (lv_at hl 3 rfl) ?_
  refine va_iald (tys := gT G) hx hb hE.K hP 1 0 rfl rfl h0 dX0_isItsDateAndTime_29 ?_
  refine rcSl (as := [.int (xy S p0.toNatClampNeg)]) (rest := []) C (c_X0_firstDayOf l G (xy S p0.toNatClampNeg)) F_X0_firstDayOf rfl bw86 bw87 hE vpn hl.1 dX0_isItsDateAndTime_30 ⟨Nat.le_of_ble_eq_true rfl, Nat.le_of_ble_eq_true rfl⟩ rfl (Nat.le_of_ble_eq_true rfl) ⟨Nat.zero_le _, Nat.zero_le _⟩ ?_
  refine lv_aload_n hx hb dX0_isItsDateAndTime_33 rfl (lv_at hl 2 rfl) ?_
  refine lv_iload_n hx hb dX0_isItsDateAndTime_34 rfl (lv_at hl 3 rfl) ?_
  refine rcVi (as := [.int p0]) (rest := [.long (fX0_firstDayOf (xy S p0.toNatClampNeg))]) (cl := RX0) C (c_X0_yearDay l G a S p0 h0) F_X0_yearDay rfl bw182 bw184 bw3 hE hP (va_recv hE.K hP (ci := 2) (q0 := 0) rfl rfl) hl.1 dX0_isItsDateAndTime_35 ⟨Nat.le_of_ble_eq_true rfl, Nat.le_of_ble_eq_true rfl⟩ rfl (Nat.le_of_ble_eq_true rfl) ⟨Nat.zero_le _, Nat.zero_le _⟩ ?_
  refine lv_i2l (v := ((fX0_yearDay S p0).toInt64)) hx hb dX0_isItsDateAndTime_38 (by first | rfl | decide) ?_
  refine lv_ladd hx hb dX0_isItsDateAndTime_39 ?_
  refine lv_lconst (v := (1 : Int64)) hx hb dX0_isItsDateAndTime_40 (by decide) ?_
  refine lv_lsub hx hb dX0_isItsDateAndTime_41 ?_
  refine lv_aload_n hx hb dX0_isItsDateAndTime_42 rfl (lv_at hl 2 rfl) ?_
  refine va_get (D := gD G) (cl := vwCl) (tys := gT G) (ci := 2) (v := .ref (a 4)) (C := RX0) (T := TX0) (N := 12) hx hb hw inB_X0 hown hE.K hP 0 rfl rfl 3 (by decide) (hw _ bw97) (fun _ h9 => h9) rfl dX0_isItsDateAndTime_43 ?_
  refine lv_iload_n hx hb dX0_isItsDateAndTime_46 rfl (lv_at hl 3 rfl) ?_
  refine va_lald (tys := gT G) hx hb hE.K hP 4 1 rfl rfl h0 dX0_isItsDateAndTime_47 ?_
  refine W.lcmp hx hb dX0_isItsDateAndTime_48 ?_
  refine lv_if_ne (tgt := 63) hx hb dX0_isItsDateAndTime_49 (by decide) (fun c_1 => ?_) (fun c_1 => ?_)
  · refine lv_iconst (v := (0 : Int32)) hx hb dX0_isItsDateAndTime_63 (by decide) ?_
    exact re_z (ty := .boolean) hx hb hr hk (by decide) dX0_isItsDateAndTime_64 (ei (if_neg c_1))
  · refine lv_lload hx hb dX0_isItsDateAndTime_52 (lv_at hl 0 rfl) ?_
    refine lv_lload_n hx hb dX0_isItsDateAndTime_54 rfl (lv_at hl 1 rfl) ?_
    refine W.lcmp hx hb dX0_isItsDateAndTime_55 ?_
    refine lv_if_ne (tgt := 63) hx hb dX0_isItsDateAndTime_56 (by decide) (fun c_2 => ?_) (fun c_2 => ?_)
    · refine lv_iconst (v := (0 : Int32)) hx hb dX0_isItsDateAndTime_63 (by decide) ?_
      exact re_z (ty := .boolean) hx hb hr hk (by decide) dX0_isItsDateAndTime_64 (ei (Eq.trans (if_pos c_1) (if_neg c_2)))
    · refine lv_iconst (v := (1 : Int32)) hx hb dX0_isItsDateAndTime_59 (by decide) ?_
      refine lv_goto (tgt := 64) hx hb dX0_isItsDateAndTime_60 (by decide) ?_
      exact re_z (ty := .boolean) hx hb hr hk (by decide) dX0_isItsDateAndTime_64 (ei (Eq.trans (if_pos c_1) (if_pos c_2)))

set_option maxRecDepth 100000 in
set_option maxHeartbeats 4000000 in
theorem c_X0_isLineLess (l : Launch) (G : GT) (a : Nat → Nat) (S : SX) (p0 : Int32) (p1 : Int64) (p2 : Int64) (p3 : Int64) (h0 : vp_in p0 6) : RO l G yX0_isLineLess cX0_isLineLess 10 (some .boolean) 3 [.ref (a 0), .int p0, .long p1, .long p2, .long p3] (wX G a S) (some (.int (fX0_isLineLess S p0 p1 p2 p3))) := by
  refine RO.ofW (own := RX0) rfl (by decide +kernel) (Nat.le_of_ble_eq_true rfl) ?_
  intro p e s m below meth c C hr hk hE hP ls hl
  have hx := C.1
  have hb := C.2.1
  have hown := C.2.2.2.1
  have hw := C.2.2.2.2
  have hl : lv_has ls 10 [(0, .ref (a 0)), (1, .int p0), (2, .long p1), (4, .long p2), (6, .long p3)] := hl
  refine lv_lload hx hb dX0_isLineLess_0 (lv_at hl 3 rfl) ?_
  refine lv_lload hx hb dX0_isLineLess_2 (lv_at hl 4 rfl) ?_
  refine lv_lsub hx hb dX0_isLineLess_4 ?_
  refine lv_lstore (lv' := [(8, .long (p2 - p3)), (0, .ref (a 0)), (1, .int p0), (2, .long p1), (4, .long p2), (6, .long p3)]) hx hb dX0_isLineLess_5 hl (Nat.le_of_ble_eq_true rfl) rfl (fun ls hl => ?_)
  refine lv_lload_n hx hb dX0_isLineLess_7 rfl (lv_at hl 3 rfl) ?_
  refine lv_lload hx hb dX0_isLineLess_8 (lv_at hl 0 rfl) ?_
  refine lv_ldc2 (v := (86400000000000 : Int64)) hx hb hown (hw _ bw190) dX0_isLineLess_10 ?_
  refine rcSl (as := [.long (p2 - p3), .long (86400000000000 : Int64)]) (rest := [.long p1]) C (c_J9_floorDiv_f86c9 l G (p2 - p3) (86400000000000 : Int64) (by decide)) F_J9_floorDiv_f86c9 rfl bw191 bw192 hE vpn hl.1 dX0_isLineLess_13 ⟨Nat.le_of_ble_eq_true rfl, Nat.le_of_ble_eq_true rfl⟩ rfl (Nat.le_of_ble_eq_true rfl) ⟨Nat.zero_le _, Nat.zero_le _⟩ ?_
  refine lv_ladd hx hb dX0_isLineLess_16 ?_
  refine lv_aload_n hx hb dX0_isLineLess_17 rfl (lv_at hl 1 rfl) ?_
  refine va_get (D := gD G) (cl := vwCl) (tys := gT G) (ci := 2) (v := .ref (a 4)) (C := RX0) (T := TX0) (N := 12) hx hb hw inB_X0 hown hE.K hP 0 rfl rfl 3 (by decide) (hw _ bw97) (fun _ h9 => h9) rfl dX0_isLineLess_18 ?_
  refine lv_iload_n hx hb dX0_isLineLess_21 rfl (lv_at hl 2 rfl) ?_
  refine va_lald (tys := gT G) hx hb hE.K hP 4 1 rfl rfl h0 dX0_isLineLess_22 ?_
  refine W.lcmp hx hb dX0_isLineLess_23 ?_
  refine lv_if_ne (tgt := 49) hx hb dX0_isLineLess_24 (by decide) (fun c_1 => ?_) (fun c_1 => ?_)
  · refine lv_iconst (v := (0 : Int32)) hx hb dX0_isLineLess_49 (by decide) ?_
    exact re_z (ty := .boolean) hx hb hr hk (by decide) dX0_isLineLess_50 (ei (if_neg c_1))
  · refine lv_lload hx hb dX0_isLineLess_27 (lv_at hl 0 rfl) ?_
    refine lv_ldc2 (v := (86400000000000 : Int64)) hx hb hown (hw _ bw190) dX0_isLineLess_29 ?_
    refine rcSl (as := [.long (p2 - p3), .long (86400000000000 : Int64)]) (rest := []) C (c_J9_floorMod_f86c9 l G (p2 - p3) (86400000000000 : Int64) (by decide)) F_J9_floorMod_f86c9 rfl bw195 bw196 hE vpn hl.1 dX0_isLineLess_32 ⟨Nat.le_of_ble_eq_true rfl, Nat.le_of_ble_eq_true rfl⟩ rfl (Nat.le_of_ble_eq_true rfl) ⟨Nat.zero_le _, Nat.zero_le _⟩ ?_
    refine lv_aload_n hx hb dX0_isLineLess_35 rfl (lv_at hl 1 rfl) ?_
    refine va_get (D := gD G) (cl := vwCl) (tys := gT G) (ci := 2) (v := .ref (a 5)) (C := RX0) (T := TX0) (N := 12) hx hb hw inB_X0 hown hE.K hP 0 rfl rfl 4 (by decide) (hw _ bw98) (fun _ h9 => h9) rfl dX0_isLineLess_36 ?_
    refine lv_iload_n hx hb dX0_isLineLess_39 rfl (lv_at hl 2 rfl) ?_
    refine va_lald (tys := gT G) hx hb hE.K hP 5 1 rfl rfl h0 dX0_isLineLess_40 ?_
    refine W.lcmp hx hb dX0_isLineLess_41 ?_
    refine lv_if_ne (tgt := 49) hx hb dX0_isLineLess_42 (by decide) (fun c_2 => ?_) (fun c_2 => ?_)
    · refine lv_iconst (v := (0 : Int32)) hx hb dX0_isLineLess_49 (by decide) ?_
      exact re_z (ty := .boolean) hx hb hr hk (by decide) dX0_isLineLess_50 (ei (Eq.trans (if_pos c_1) (if_neg c_2)))
    · refine lv_iconst (v := (1 : Int32)) hx hb dX0_isLineLess_45 (by decide) ?_
      refine lv_goto (tgt := 50) hx hb dX0_isLineLess_46 (by decide) ?_
      exact re_z (ty := .boolean) hx hb hr hk (by decide) dX0_isLineLess_50 (ei (Eq.trans (if_pos c_1) (if_pos c_2)))

