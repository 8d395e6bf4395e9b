set_option maxRecDepth 100000 in
set_option maxHeartbeats 4000000 in
theorem c_X2_withDayOfYear (l : Launch) (G : GT) (b : Nat → Nat) (T : SM) (p0 : Int32) (p1 : Int32) (hT : MO T) : WR l G yX2_withDayOfYear cX2_withDayOfYear 3 (some .int) 12 1 3 [.ref (b 0), .int p0, .int p1] (wM G b T) (wM G b (gX2_withDayOfYear T p0 p1).2) (some (.int (gX2_withDayOfYear T p0 p1).1)) := by
  refine WR.ofW (own := RX2) rfl (by decide +kernel) (Nat.le_of_ble_eq_true rfl) ?_
  intro p e s m below meth c A C hr hk hnm hE hP hD hA hAB hS ls hl
  have hx := C.1
  have hb := C.2.1
  have hown := C.2.2.2.1
  have hw := C.2.2.2.2
  have hl : lv_has ls 3 [(0, .ref (b 0)), (1, .int p0), (2, .int p1)] := hl
  refine lv_aload_n hx hb dX2_withDayOfYear_0 rfl (lv_at hl 0 rfl) ?_
  refine lv_iload_n hx hb dX2_withDayOfYear_1 rfl (lv_at hl 1 rfl) ?_
  refine rcSi (as := [.int p0]) (rest := [.ref (b 0)]) C (c_X2_isNone l G p0) F_X2_isNone rfl bw1216 bw1217 (hE.S hS hAB) vpn hl.1 dX2_withDayOfYear_2 ⟨Nat.le_of_ble_eq_true rfl, Nat.le_of_ble_eq_true rfl⟩ rfl (Nat.le_of_ble_eq_true rfl) ⟨Nat.le_of_ble_eq_true rfl, Nat.le_of_ble_eq_true rfl⟩ ?_
  refine lv_iconst (v := (1 : Int32)) hx hb dX2_withDayOfYear_5 (by decide) ?_
  refine lv_sipush (v := (366 : Int32)) hx hb dX2_withDayOfYear_6 (by decide) ?_
  refine lv_iload_n hx hb dX2_withDayOfYear_9 rfl (lv_at hl 2 rfl) ?_
  refine rcSi (as := [.int (1 : Int32), .int (366 : Int32), .int p1]) (rest := [.int (fX2_isNone p0), .ref (b 0)]) C (c_X2_isFrom l G (1 : Int32) (366 : Int32) p1) F_X2_isFrom rfl bw1208 bw1209 (hE.S hS hAB) vpn hl.1 dX2_withDayOfYear_10 ⟨Nat.le_of_ble_eq_true rfl, Nat.le_of_ble_eq_true rfl⟩ rfl (Nat.le_of_ble_eq_true rfl) ⟨Nat.le_of_ble_eq_true rfl, Nat.le_of_ble_eq_true rfl⟩ ?_
  refine k_dia (b := (fX2_isFrom (1 : Int32) (366 : Int32) p1) = 0) (x := (1 : Int32)) (y := (0 : Int32)) (Wg := fun z9 => W _ _ _ _ _ _ _ _ _ _ _ _ _ _ _ (F0 m 21 ls (.int z9 :: _))) ?_ (fun t9 f9 => lv_if_ne (tgt := 20) hx hb dX2_withDayOfYear_13 (by decide) (fun c_x => lv_iconst (v := (0 : Int32)) hx hb dX2_withDayOfYear_20 (by decide) (f9 c_x)) (fun c_x => lv_iconst (v := (1 : Int32)) hx hb dX2_withDayOfYear_16 (by decide) (lv_goto (tgt := 21) hx hb dX2_withDayOfYear_17 (by decide) (t9 c_x))))
  refine wcVi (as := [.int (fX2_isNone p0), .int (if (fX2_isFrom (1 : Int32) (366 : Int32) p1) = 0 then (1 : Int32) else (0 : Int32))]) (rest := []) (cl := RX2) C (c_X2_refuses l G b T (fX2_isNone p0) (if (fX2_isFrom (1 : Int32) (366 : Int32) p1) = 0 then (1 : Int32) else (0 : Int32))) F_X2_refuses rfl bw1219 bw1221 bw33 (hE.S hS hAB) hP hD hS hA hAB (va_recv hE.K hP (ci := 4) (q0 := 0) rfl rfl) hl.1 dX2_withDayOfYear_21 ⟨Nat.le_of_ble_eq_true rfl, Nat.le_of_ble_eq_true rfl⟩ rfl (Nat.le_of_ble_eq_true rfl) ⟨Nat.le_of_ble_eq_true rfl, Nat.le_of_ble_eq_true rfl⟩ (fun H locs hP hD hS => ?_)
  have hP : va_P (gD G) vwCl (wM G b ((fth (fX2_isNone p0) (if (fX2_isFrom (1 : Int32) (366 : Int32) p1) = 0 then (1 : Int32) else (0 : Int32))), (my T), (mm T), (md T), (mt T), (T.2.2.2.2.2))) H := hP
  have hD : va_D A (wM G b ((fth (fX2_isNone p0) (if (fX2_isFrom (1 : Int32) (366 : Int32) p1) = 0 then (1 : Int32) else (0 : Int32))), (my T), (mm T), (md T), (mt T), (T.2.2.2.2.2))) := hD
  refine lv_if_eq (tgt := 29) hx hb dX2_withDayOfYear_24 (by decide) (fun c_1 => ?_) (fun c_1 => ?_)
  · have c_1 := rf_p c_1
    refine lv_iload_n hx hb dX2_withDayOfYear_29 rfl (lv_at hl 2 rfl) ?_
    refine lv_aload_n hx hb dX2_withDayOfYear_30 rfl (lv_at hl 0 rfl) ?_
    refine va_get (D := gD G) (cl := vwCl) (tys := gT G) (ci := 4) (v := .ref (b 1)) (C := RX2) (T := TX2) (N := 12) hx hb hw inB_X2 hown hE.K hP 0 rfl rfl 1 (by decide) (hw _ bw1164) (fun _ h9 => h9) rfl dX2_withDayOfYear_31 ?_
    refine lv_iload_n hx hb dX2_withDayOfYear_34 rfl (lv_at hl 1 rfl) ?_
    refine va_iald (tys := gT G) hx hb hE.K hP 1 0 rfl rfl (none_in (frf_a c_1)) dX2_withDayOfYear_35 ?_
    refine rcSi (as := [.int ((my T) p0.toNatClampNeg)]) (rest := [.int p1]) C (c_X2_daysOf_ l G ((my T) p0.toNatClampNeg)) F_X2_daysOf_ rfl bw1289 bw1290 (hE.S hS hAB) vpn hl.1 dX2_withDayOfYear_36 ⟨Nat.le_of_ble_eq_true rfl, Nat.le_of_ble_eq_true rfl⟩ rfl (Nat.le_of_ble_eq_true rfl) ⟨Nat.le_of_ble_eq_true rfl, Nat.le_of_ble_eq_true rfl⟩ ?_
    refine lv_icmp_le (tgt := 47) hx hb dX2_withDayOfYear_39 (by decide) (fun c_2 => ?_) (fun c_2 => ?_)
    · refine lv_aload_n hx hb dX2_withDayOfYear_47 rfl (lv_at hl 0 rfl) ?_
      refine lv_iload_n hx hb dX2_withDayOfYear_48 rfl (lv_at hl 1 rfl) ?_
      refine lv_aload_n hx hb dX2_withDayOfYear_49 rfl (lv_at hl 0 rfl) ?_
      refine va_get (D := gD G) (cl := vwCl) (tys := gT G) (ci := 4) (v := .ref (b 1)) (C := RX2) (T := TX2) (N := 12) hx hb hw inB_X2 hown hE.K hP 0 rfl rfl 1 (by decide) (hw _ bw1164) (fun _ h9 => h9) rfl dX2_withDayOfYear_50 ?_
      refine lv_iload_n hx hb dX2_withDayOfYear_53 rfl (lv_at hl 1 rfl) ?_
      refine va_iald (tys := gT G) hx hb hE.K hP 1 0 rfl rfl (none_in (frf_a c_1)) dX2_withDayOfYear_54 ?_
      refine lv_iconst (v := (1 : Int32)) hx hb dX2_withDayOfYear_55 (by decide) ?_
      refine lv_iconst (v := (1 : Int32)) hx hb dX2_withDayOfYear_56 (by decide) ?_
      refine rcSl (as := [.int ((my T) p0.toNatClampNeg), .int (1 : Int32), .int (1 : Int32)]) (rest := [.int p0, .ref (b 0)]) C (c_X2_dayOf l G ((my T) p0.toNatClampNeg) (1 : Int32) (1 : Int32) (by decide)) F_X2_dayOf rfl bw1251 bw1252 (hE.S hS hAB) vpn hl.1 dX2_withDayOfYear_57 ⟨Nat.le_of_ble_eq_true rfl, Nat.le_of_ble_eq_true rfl⟩ rfl (Nat.le_of_ble_eq_true rfl) ⟨Nat.le_of_ble_eq_true rfl, Nat.le_of_ble_eq_true rfl⟩ ?_
      refine lv_iload_n hx hb dX2_withDayOfYear_60 rfl (lv_at hl 2 rfl) ?_
      refine lv_i2l (v := (p1.toInt64)) hx hb dX2_withDayOfYear_61 (by first | rfl | decide) ?_
      refine lv_ladd hx hb dX2_withDayOfYear_62 ?_
      refine lv_lconst (v := (1 : Int64)) hx hb dX2_withDayOfYear_63 (by decide) ?_
      refine lv_lsub hx hb dX2_withDayOfYear_64 ?_
      refine lv_aload_n hx hb dX2_withDayOfYear_65 rfl (lv_at hl 0 rfl) ?_
      refine va_get (D := gD G) (cl := vwCl) (tys := gT G) (ci := 4) (v := .ref (b 4)) (C := RX2) (T := TX2) (N := 12) hx hb hw inB_X2 hown hE.K hP 0 rfl rfl 4 (by decide) (hw _ bw1167) (fun _ h9 => h9) rfl dX2_withDayOfYear_66 ?_
      refine lv_iload_n hx hb dX2_withDayOfYear_69 rfl (lv_at hl 1 rfl) ?_
      refine va_lald (tys := gT G) hx hb hE.K hP 4 1 rfl rfl (none_in (frf_a c_1)) dX2_withDayOfYear_70 ?_
      refine wcVi (as := [.int p0, .long (((fX2_dayOf ((my T) p0.toNatClampNeg) (1 : Int32) (1 : Int32)) + (p1.toInt64)) - (1 : Int64)), .long ((mt T) p0.toNatClampNeg)]) (rest := []) (cl := RX2) C (c_X2_becomeDay l G b ((fth (fX2_isNone p0) (if (fX2_isFrom (1 : Int32) (366 : Int32) p1) = 0 then (1 : Int32) else (0 : Int32))), (my T), (mm T), (md T), (mt T), (T.2.2.2.2.2)) p0 (((fX2_dayOf ((my T) p0.toNatClampNeg) (1 : Int32) (1 : Int32)) + (p1.toInt64)) - (1 : Int64)) ((mt T) p0.toNatClampNeg) (none_in (frf_a c_1)) (MO.same hT rfl)) F_X2_becomeDay rfl bw1281 bw1283 bw39 (hE.S hS hAB) hP hD hS hA hAB (va_recv hE.K hP (ci := 4) (q0 := 0) rfl rfl) hl.1 dX2_withDayOfYear_71 ⟨Nat.le_of_ble_eq_true rfl, Nat.le_of_ble_eq_true rfl⟩ rfl (Nat.le_of_ble_eq_true rfl) ⟨Nat.le_of_ble_eq_true rfl, Nat.le_of_ble_eq_true rfl⟩ (fun H locs hP hD hS => ?_)
      exact we_i (wf := wM G b) hx hb hr hk hP hD hS (Nat.le_of_ble_eq_true rfl) (Nat.le_of_ble_eq_true rfl) dX2_withDayOfYear_74 (Eq.trans (if_pos c_1) (if_pos c_2))
    · refine lv_aload_n hx hb dX2_withDayOfYear_42 rfl (lv_at hl 0 rfl) ?_
      refine wcVi (as := []) (rest := []) (cl := RX2) C (c_X2_refuse l G b ((fth (fX2_isNone p0) (if (fX2_isFrom (1 : Int32) (366 : Int32) p1) = 0 then (1 : Int32) else (0 : Int32))), (my T), (mm T), (md T), (mt T), (T.2.2.2.2.2))) F_X2_refuse rfl bw1229 bw1231 bw34 (hE.S hS hAB) hP hD hS hA hAB (va_recv hE.K hP (ci := 4) (q0 := 0) rfl rfl) hl.1 dX2_withDayOfYear_43 ⟨Nat.le_of_ble_eq_true rfl, Nat.le_of_ble_eq_true rfl⟩ rfl (Nat.le_of_ble_eq_true rfl) ⟨Nat.le_of_ble_eq_true rfl, Nat.le_of_ble_eq_true rfl⟩ (fun H locs hP hD hS => ?_)
      exact we_i (wf := wM G b) hx hb hr hk hP hD hS (Nat.le_of_ble_eq_true rfl) (Nat.le_of_ble_eq_true rfl) dX2_withDayOfYear_46 (Eq.trans (if_pos c_1) (if_neg c_2))
  · have c_1 := rf_n c_1
    refine lv_iconst (v := (0 : Int32)) hx hb dX2_withDayOfYear_27 (by decide) ?_
    exact we_i (wf := wM G b) hx hb hr hk hP hD hS (Nat.le_of_ble_eq_true rfl) (Nat.le_of_ble_eq_true rfl) dX2_withDayOfYear_28 (if_neg c_1)

set_option maxRecDepth 100000 in
set_option maxHeartbeats 4000000 in
theorem c_X2_withHour (l : Launch) (G : GT) (b : Nat → Nat) (T : SM) (p0 : Int32) (p1 : Int32) (hT : MO T) : WR l G yX2_withHour cX2_withHour 3 (some .int) 12 0 0 [.ref (b 0), .int p0, .int p1] (wM G b T) (wM G b (gX2_withHour T p0 p1).2) (some (.int (gX2_withHour T p0 p1).1)) := by
  refine WR.ofW (own := RX2) rfl (by decide +kernel) (Nat.le_of_ble_eq_true rfl) ?_
  intro p e s m below meth c A C hr hk hnm hE hP hD hA hAB hS ls hl
  have hx := C.1
  have hb := C.2.1
  have hown := C.2.2.2.1
  have hw := C.2.2.2.2
  have hl : lv_has ls 3 [(0, .ref (b 0)), (1, .int p0), (2, .int p1)] := hl
  refine lv_aload_n hx hb dX2_withHour_0 rfl (lv_at hl 0 rfl) ?_
  refine lv_iload_n hx hb dX2_withHour_1 rfl (lv_at hl 1 rfl) ?_
  refine rcSi (as := [.int p0]) (rest := [.ref (b 0)]) C (c_X2_isNone l G p0) F_X2_isNone rfl bw1216 bw1217 (hE.S hS hAB) vpn hl.1 dX2_withHour_2 ⟨Nat.le_of_ble_eq_true rfl, Nat.le_of_ble_eq_true rfl⟩ rfl (Nat.le_of_ble_eq_true rfl) ⟨Nat.le_of_ble_eq_true rfl, Nat.le_of_ble_eq_true rfl⟩ ?_
  refine lv_iconst (v := (0 : Int32)) hx hb dX2_withHour_5 (by decide) ?_
  refine lv_bipush (v := (23 : Int32)) hx hb dX2_withHour_6 (by decide) ?_
  refine lv_iload_n hx hb dX2_withHour_8 rfl (lv_at hl 2 rfl) ?_
  refine rcSi (as := [.int (0 : Int32), .int (23 : Int32), .int p1]) (rest := [.int (fX2_isNone p0), .ref (b 0)]) C (c_X2_isFrom l G (0 : Int32) (23 : Int32) p1) F_X2_isFrom rfl bw1208 bw1209 (hE.S hS hAB) vpn hl.1 dX2_withHour_9 ⟨Nat.le_of_ble_eq_true rfl, Nat.le_of_ble_eq_true rfl⟩ rfl (Nat.le_of_ble_eq_true rfl) ⟨Nat.le_of_ble_eq_true rfl, Nat.le_of_ble_eq_true rfl⟩ ?_
  refine k_dia (b := (fX2_isFrom (0 : Int32) (23 : Int32) p1) = 0) (x := (1 : Int32)) (y := (0 : Int32)) (Wg := fun z9 => W _ _ _ _ _ _ _ _ _ _ _ _ _ _ _ (F0 m 20 ls (.int z9 :: _))) ?_ (fun t9 f9 => lv_if_ne (tgt := 19) hx hb dX2_withHour_12 (by decide) (fun c_x => lv_iconst (v := (0 : Int32)) hx hb dX2_withHour_19 (by decide) (f9 c_x)) (fun c_x => lv_iconst (v := (1 : Int32)) hx hb dX2_withHour_15 (by decide) (lv_goto (tgt := 20) hx hb dX2_withHour_16 (by decide) (t9 c_x))))
  refine wcVi (as := [.int (fX2_isNone p0), .int (if (fX2_isFrom (0 : Int32) (23 : Int32) p1) = 0 then (1 : Int32) else (0 : Int32))]) (rest := []) (cl := RX2) C (c_X2_refuses l G b T (fX2_isNone p0) (if (fX2_isFrom (0 : Int32) (23 : Int32) p1) = 0 then (1 : Int32) else (0 : Int32))) F_X2_refuses rfl bw1219 bw1221 bw33 (hE.S hS hAB) hP hD hS hA hAB (va_recv hE.K hP (ci := 4) (q0 := 0) rfl rfl) hl.1 dX2_withHour_20 ⟨Nat.le_of_ble_eq_true rfl, Nat.le_of_ble_eq_true rfl⟩ rfl (Nat.le_of_ble_eq_true rfl) ⟨Nat.le_of_ble_eq_true rfl, Nat.le_of_ble_eq_true rfl⟩ (fun H locs hP hD hS => ?_)
  have hP : va_P (gD G) vwCl (wM G b ((fth (fX2_isNone p0) (if (fX2_isFrom (0 : Int32) (23 : Int32) p1) = 0 then (1 : Int32) else (0 : Int32))), (my T), (mm T), (md T), (mt T), (T.2.2.2.2.2))) H := hP
  have hD : va_D A (wM G b ((fth (fX2_isNone p0) (if (fX2_isFrom (0 : Int32) (23 : Int32) p1) = 0 then (1 : Int32) else (0 : Int32))), (my T), (mm T), (md T), (mt T), (T.2.2.2.2.2))) := hD
  refine lv_if_eq (tgt := 30) hx hb dX2_withHour_23 (by decide) (fun c_1 => ?_) (fun c_1 => ?_)
  · have c_1 := rf_p c_1
    refine lv_aload_n hx hb dX2_withHour_30 rfl (lv_at hl 0 rfl) ?_
    refine lv_iload_n hx hb dX2_withHour_31 rfl (lv_at hl 1 rfl) ?_
    refine lv_ldc2 (v := (3600000000000 : Int64)) hx hb hown (hw _ bw1331) dX2_withHour_32 ?_
    refine lv_ldc2 (v := (24 : Int64)) hx hb hown (hw _ bw1332) dX2_withHour_35 ?_
    refine lv_iload_n hx hb dX2_withHour_38 rfl (lv_at hl 2 rfl) ?_
    refine lv_i2l (v := (p1.toInt64)) hx hb dX2_withHour_39 (by first | rfl | decide) ?_
    refine wcVi (as := [.int p0, .long (3600000000000 : Int64), .long (24 : Int64), .long (p1.toInt64)]) (rest := []) (cl := RX2) C (c_X2_withPart l G b ((fth (fX2_isNone p0) (if (fX2_isFrom (0 : Int32) (23 : Int32) p1) = 0 then (1 : Int32) else (0 : Int32))), (my T), (mm T), (md T), (mt T), (T.2.2.2.2.2)) p0 (3600000000000 : Int64) (24 : Int64) (p1.toInt64) (none_in (frf_a c_1)) (MO.same hT rfl) (by decide) (by decide)) F_X2_withPart rfl bw1333 bw1335 bw41 (hE.S hS hAB) hP hD hS hA hAB (va_recv hE.K hP (ci := 4) (q0 := 0) rfl rfl) hl.1 dX2_withHour_40 ⟨Nat.le_of_ble_eq_true rfl, Nat.le_of_ble_eq_true rfl⟩ rfl (Nat.le_of_ble_eq_true rfl) ⟨Nat.le_of_ble_eq_true rfl, Nat.le_of_ble_eq_true rfl⟩ (fun H locs hP hD hS => ?_)
    exact we_i (wf := wM G b) hx hb hr hk hP hD hS (Nat.le_of_ble_eq_true rfl) (Nat.le_of_ble_eq_true rfl) dX2_withHour_43 (if_pos c_1)
  · have c_1 := rf_n c_1
    refine lv_iconst (v := (0 : Int32)) hx hb dX2_withHour_26 (by decide) ?_
    refine lv_goto (tgt := 43) hx hb dX2_withHour_27 (by decide) ?_
    exact we_i (wf := wM G b) hx hb hr hk hP hD hS (Nat.le_of_ble_eq_true rfl) (Nat.le_of_ble_eq_true rfl) dX2_withHour_43 (if_neg c_1)

set_option maxRecDepth 100000 in
set_option maxHeartbeats 4000000 in
theorem c_X2_withMinute (l : Launch) (G : GT) (b : Nat → Nat) (T : SM) (p0 : Int32) (p1 : Int32) (hT : MO T) : WR l G yX2_withMinute cX2_withMinute 3 (some .int) 12 0 0 [.ref (b 0), .int p0, .int p1] (wM G b T) (wM G b (gX2_withMinute T p0 p1).2) (some (.int (gX2_withMinute T p0 p1).1)) := by
  refine WR.ofW (own := RX2) rfl (by decide +kernel) (Nat.le_of_ble_eq_true rfl) ?_
  intro p e s m below meth c A C hr hk hnm hE hP hD hA hAB hS ls hl
  have hx := C.1
  have hb := C.2.1
  have hown := C.2.2.2.1
  have hw := C.2.2.2.2
  have hl : lv_has ls 3 [(0, .ref (b 0)), (1, .int p0), (2, .int p1)] := hl
  refine lv_aload_n hx hb dX2_withMinute_0 rfl (lv_at hl 0 rfl) ?_
  refine lv_iload_n hx hb dX2_withMinute_1 rfl (lv_at hl 1 rfl) ?_
  refine rcSi (as := [.int p0]) (rest := [.ref (b 0)]) C (c_X2_isNone l G p0) F_X2_isNone rfl bw1216 bw1217 (hE.S hS hAB) vpn hl.1 dX2_withMinute_2 ⟨Nat.le_of_ble_eq_true rfl, Nat.le_of_ble_eq_true rfl⟩ rfl (Nat.le_of_ble_eq_true rfl) ⟨Nat.le_of_ble_eq_true rfl, Nat.le_of_ble_eq_true rfl⟩ ?_
  refine lv_iconst (v := (0 : Int32)) hx hb dX2_withMinute_5 (by decide) ?_
  refine lv_bipush (v := (59 : Int32)) hx hb dX2_withMinute_6 (by decide) ?_
  refine lv_iload_n hx hb dX2_withMinute_8 rfl (lv_at hl 2 rfl) ?_
  refine rcSi (as := [.int (0 : Int32), .int (59 : Int32), .int p1]) (rest := [.int (fX2_isNone p0), .ref (b 0)]) C (c_X2_isFrom l G (0 : Int32) (59 : Int32) p1) F_X2_isFrom rfl bw1208 bw1209 (hE.S hS hAB) vpn hl.1 dX2_withMinute_9 ⟨Nat.le_of_ble_eq_true rfl, Nat.le_of_ble_eq_true rfl⟩ rfl (Nat.le_of_ble_eq_true rfl) ⟨Nat.le_of_ble_eq_true rfl, Nat.le_of_ble_eq_true rfl⟩ ?_
  refine k_dia (b := (fX2_isFrom (0 : Int32) (59 : Int32) p1) = 0) (x := (1 : Int32)) (y := (0 : Int32)) (Wg := fun z9 => W _ _ _ _ _ _ _ _ _ _ _ _ _ _ _ (F0 m 20 ls (.int z9 :: _))) ?_ (fun t9 f9 => lv_if_ne (tgt := 19) hx hb dX2_withMinute_12 (by decide) (fun c_x => lv_iconst (v := (0 : Int32)) hx hb dX2_withMinute_19 (by decide) (f9 c_x)) (fun c_x => lv_iconst (v := (1 : Int32)) hx hb dX2_withMinute_15 (by decide) (lv_goto (tgt := 20) hx hb dX2_withMinute_16 (by decide) (t9 c_x))))
  refine wcVi (as := [.int (fX2_isNone p0), .int (if (fX2_isFrom (0 : Int32) (59 : Int32) p1) = 0 then (1 : Int32) else (0 : Int32))]) (rest := []) (cl := RX2) C (c_X2_refuses l G b T (fX2_isNone p0) (if (fX2_isFrom (0 : Int32) (59 : Int32) p1) = 0 then (1 : Int32) else (0 : Int32))) F_X2_refuses rfl bw1219 bw1221 bw33 (hE.S hS hAB) hP hD hS hA hAB (va_recv hE.K hP (ci := 4) (q0 := 0) rfl rfl) hl.1 dX2_withMinute_20 ⟨Nat.le_of_ble_eq_true rfl, Nat.le_of_ble_eq_true rfl⟩ rfl (Nat.le_of_ble_eq_true rfl) ⟨Nat.le_of_ble_eq_true rfl, Nat.le_of_ble_eq_true rfl⟩ (fun H locs hP hD hS => ?_)
  have hP : va_P (gD G) vwCl (wM G b ((fth (fX2_isNone p0) (if (fX2_isFrom (0 : Int32) (59 : Int32) p1) = 0 then (1 : Int32) else (0 : Int32))), (my T), (mm T), (md T), (mt T), (T.2.2.2.2.2))) H := hP
  have hD : va_D A (wM G b ((fth (fX2_isNone p0) (if (fX2_isFrom (0 : Int32) (59 : Int32) p1) = 0 then (1 : Int32) else (0 : Int32))), (my T), (mm T), (md T), (mt T), (T.2.2.2.2.2))) := hD
  refine lv_if_eq (tgt := 30) hx hb dX2_withMinute_23 (by decide) (fun c_1 => ?_) (fun c_1 => ?_)
  · have c_1 := rf_p c_1
    refine lv_aload_n hx hb dX2_withMinute_30 rfl (lv_at hl 0 rfl) ?_
    refine lv_iload_n hx hb dX2_withMinute_31 rfl (lv_at hl 1 rfl) ?_
    refine lv_ldc2 (v := (60000000000 : Int64)) hx hb hown (hw _ bw1341) dX2_withMinute_32 ?_
    refine lv_ldc2 (v := (60 : Int64)) hx hb hown (hw _ bw1237) dX2_withMinute_35 ?_
    refine lv_iload_n hx hb dX2_withMinute_38 rfl (lv_at hl 2 rfl) ?_
    refine lv_i2l (v := (p1.toInt64)) hx hb dX2_withMinute_39 (by first | rfl | decide) ?_
    refine wcVi (as := [.int p0, .long (60000000000 : Int64), .long (60 : Int64), .long (p1.toInt64)]) (rest := []) (cl := RX2) C (c_X2_withPart l G b ((fth (fX2_isNone p0) (if (fX2_isFrom (0 : Int32) (59 : Int32) p1) = 0 then (1 : Int32) else (0 : Int32))), (my T), (mm T), (md T), (mt T), (T.2.2.2.2.2)) p0 (60000000000 : Int64) (60 : Int64) (p1.toInt64) (none_in (frf_a c_1)) (MO.same hT rfl) (by decide) (by decide)) F_X2_withPart rfl bw1333 bw1335 bw41 (hE.S hS hAB) hP hD hS hA hAB (va_recv hE.K hP (ci := 4) (q0 := 0) rfl rfl) hl.1 dX2_withMinute_40 ⟨Nat.le_of_ble_eq_true rfl, Nat.le_of_ble_eq_true rfl⟩ rfl (Nat.le_of_ble_eq_true rfl) ⟨Nat.le_of_ble_eq_true rfl, Nat.le_of_ble_eq_true rfl⟩ (fun H locs hP hD hS => ?_)
    exact we_i (wf := wM G b) hx hb hr hk hP hD hS (Nat.le_of_ble_eq_true rfl) (Nat.le_of_ble_eq_true rfl) dX2_withMinute_43 (if_pos c_1)
  · have c_1 := rf_n c_1
    refine lv_iconst (v := (0 : Int32)) hx hb dX2_withMinute_26 (by decide) ?_
    refine lv_goto (tgt := 43) hx hb dX2_withMinute_27 (by decide) ?_
    exact we_i (wf := wM G b) hx hb hr hk hP hD hS (Nat.le_of_ble_eq_true rfl) (Nat.le_of_ble_eq_true rfl) dX2_withMinute_43 (if_neg c_1)

