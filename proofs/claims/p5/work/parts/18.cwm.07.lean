set_option maxRecDepth 100000 in
set_option maxHeartbeats 4000000 in
theorem c_X2_withYear (l : Launch) (G : GT) (b : Nat → Nat) (T : SM) (p0 : Int32) (p1 : Int32) (hT : MO T) : WR l G yX2_withYear cX2_withYear 3 (some .int) 12 0 0 [.ref (b 0), .int p0, .int p1] (wM G b T) (wM G b (gX2_withYear T p0 p1).2) (some (.int (gX2_withYear T p0 p1).1)) := by
  refine WR.ofW (own := RX2) rfl (by decide +kernel) (Nat.le_of_ble_eq_true rfl) ?_
  intro p e s m below meth c A C hr hk hnm hE hP hD hA hAB hS ls hl
  have hx := C.1
  have hb := C.2.1
  have hown := C.2.2.2.1
  have hw := C.2.2.2.2
  have hl : lv_has ls 3 [(0, .ref (b 0)), (1, .int p0), (2, .int p1)] := hl
  refine lv_aload_n hx hb dX2_withYear_0 rfl (lv_at hl 0 rfl) ?_
  refine lv_iload_n hx hb dX2_withYear_1 rfl (lv_at hl 1 rfl) ?_
  refine rcSi (as := [.int p0]) (rest := [.ref (b 0)]) C (c_X2_isNone l G p0) F_X2_isNone rfl bw1216 bw1217 (hE.S hS hAB) vpn hl.1 dX2_withYear_2 ⟨Nat.le_of_ble_eq_true rfl, Nat.le_of_ble_eq_true rfl⟩ rfl (Nat.le_of_ble_eq_true rfl) ⟨Nat.le_of_ble_eq_true rfl, Nat.le_of_ble_eq_true rfl⟩ ?_
  refine lv_sipush (v := (-9999 : Int32)) hx hb dX2_withYear_5 (by decide) ?_
  refine lv_sipush (v := (9999 : Int32)) hx hb dX2_withYear_8 (by decide) ?_
  refine lv_iload_n hx hb dX2_withYear_11 rfl (lv_at hl 2 rfl) ?_
  refine rcSi (as := [.int (-9999 : Int32), .int (9999 : Int32), .int p1]) (rest := [.int (fX2_isNone p0), .ref (b 0)]) C (c_X2_isFrom l G (-9999 : Int32) (9999 : Int32) p1) F_X2_isFrom rfl bw1208 bw1209 (hE.S hS hAB) vpn hl.1 dX2_withYear_12 ⟨Nat.le_of_ble_eq_true rfl, Nat.le_of_ble_eq_true rfl⟩ rfl (Nat.le_of_ble_eq_true rfl) ⟨Nat.le_of_ble_eq_true rfl, Nat.le_of_ble_eq_true rfl⟩ ?_
  refine k_dia (b := (fX2_isFrom (-9999 : Int32) (9999 : Int32) p1) = 0) (x := (1 : Int32)) (y := (0 : Int32)) (Wg := fun z9 => W _ _ _ _ _ _ _ _ _ _ _ _ _ _ _ (F0 m 23 ls (.int z9 :: _))) ?_ (fun t9 f9 => lv_if_ne (tgt := 22) hx hb dX2_withYear_15 (by decide) (fun c_x => lv_iconst (v := (0 : Int32)) hx hb dX2_withYear_22 (by decide) (f9 c_x)) (fun c_x => lv_iconst (v := (1 : Int32)) hx hb dX2_withYear_18 (by decide) (lv_goto (tgt := 23) hx hb dX2_withYear_19 (by decide) (t9 c_x))))
  refine wcVi (as := [.int (fX2_isNone p0), .int (if (fX2_isFrom (-9999 : Int32) (9999 : Int32) p1) = 0 then (1 : Int32) else (0 : Int32))]) (rest := []) (cl := RX2) C (c_X2_refuses l G b T (fX2_isNone p0) (if (fX2_isFrom (-9999 : Int32) (9999 : Int32) p1) = 0 then (1 : Int32) else (0 : Int32))) F_X2_refuses rfl bw1219 bw1221 bw33 (hE.S hS hAB) hP hD hS hA hAB (va_recv hE.K hP (ci := 4) (q0 := 0) rfl rfl) hl.1 dX2_withYear_23 ⟨Nat.le_of_ble_eq_true rfl, Nat.le_of_ble_eq_true rfl⟩ rfl (Nat.le_of_ble_eq_true rfl) ⟨Nat.le_of_ble_eq_true rfl, Nat.le_of_ble_eq_true rfl⟩ (fun H locs hP hD hS => ?_)
  have hP : va_P (gD G) vwCl (wM G b ((fth (fX2_isNone p0) (if (fX2_isFrom (-9999 : Int32) (9999 : Int32) p1) = 0 then (1 : Int32) else (0 : Int32))), (my T), (mm T), (md T), (mt T), (T.2.2.2.2.2))) H := hP
  have hD : va_D A (wM G b ((fth (fX2_isNone p0) (if (fX2_isFrom (-9999 : Int32) (9999 : Int32) p1) = 0 then (1 : Int32) else (0 : Int32))), (my T), (mm T), (md T), (mt T), (T.2.2.2.2.2))) := hD
  refine lv_if_eq (tgt := 31) hx hb dX2_withYear_26 (by decide) (fun c_1 => ?_) (fun c_1 => ?_)
  · have c_1 := rf_p c_1
    refine lv_aload_n hx hb dX2_withYear_31 rfl (lv_at hl 0 rfl) ?_
    refine lv_iload_n hx hb dX2_withYear_32 rfl (lv_at hl 1 rfl) ?_
    refine lv_iload_n hx hb dX2_withYear_33 rfl (lv_at hl 2 rfl) ?_
    refine lv_i2l (v := (p1.toInt64)) hx hb dX2_withYear_34 (by first | rfl | decide) ?_
    refine lv_aload_n hx hb dX2_withYear_35 rfl (lv_at hl 0 rfl) ?_
    refine va_get (D := gD G) (cl := vwCl) (tys := gT G) (ci := 4) (v := .ref (b 2)) (C := RX2) (T := TX2) (N := 12) hx hb hw inB_X2 hown hE.K hP 0 rfl rfl 2 (by decide) (hw _ bw1165) (fun _ h9 => h9) rfl dX2_withYear_36 ?_
    refine lv_iload_n hx hb dX2_withYear_39 rfl (lv_at hl 1 rfl) ?_
    refine va_iald (tys := gT G) hx hb hE.K hP 2 0 rfl rfl (none_in (frf_a c_1)) dX2_withYear_40 ?_
    refine wcVi (as := [.int p0, .long (p1.toInt64), .int ((mm T) p0.toNatClampNeg)]) (rest := []) (cl := RX2) C (c_X2_becomeMonth l G b ((fth (fX2_isNone p0) (if (fX2_isFrom (-9999 : Int32) (9999 : Int32) p1) = 0 then (1 : Int32) else (0 : Int32))), (my T), (mm T), (md T), (mt T), (T.2.2.2.2.2)) p0 (p1.toInt64) ((mm T) p0.toNatClampNeg) (none_in (frf_a c_1)) (MO.same hT rfl) (MO.at hT (none_in (frf_a c_1)))) F_X2_becomeMonth rfl bw1308 bw1310 bw40 (hE.S hS hAB) hP hD hS hA hAB (va_recv hE.K hP (ci := 4) (q0 := 0) rfl rfl) hl.1 dX2_withYear_41 ⟨Nat.le_of_ble_eq_true rfl, Nat.le_of_ble_eq_true rfl⟩ rfl (Nat.le_of_ble_eq_true rfl) ⟨Nat.le_of_ble_eq_true rfl, Nat.le_of_ble_eq_true rfl⟩ (fun H locs hP hD hS => ?_)
    exact we_i (wf := wM G b) hx hb hr hk hP hD hS (Nat.le_of_ble_eq_true rfl) (Nat.le_of_ble_eq_true rfl) dX2_withYear_44 (if_pos c_1)
  · have c_1 := rf_n c_1
    refine lv_iconst (v := (0 : Int32)) hx hb dX2_withYear_29 (by decide) ?_
    exact we_i (wf := wM G b) hx hb hr hk hP hD hS (Nat.le_of_ble_eq_true rfl) (Nat.le_of_ble_eq_true rfl) dX2_withYear_30 (if_neg c_1)

set_option maxRecDepth 100000 in
set_option maxHeartbeats 4000000 in
theorem c_X2_withMonth (l : Launch) (G : GT) (b : Nat → Nat) (T : SM) (p0 : Int32) (p1 : Int32) (hT : MO T) : WR l G yX2_withMonth cX2_withMonth 3 (some .int) 12 0 0 [.ref (b 0), .int p0, .int p1] (wM G b T) (wM G b (gX2_withMonth T p0 p1).2) (some (.int (gX2_withMonth T p0 p1).1)) := by
  refine WR.ofW (own := RX2) rfl (by decide +kernel) (Nat.le_of_ble_eq_true rfl) ?_
  intro p e s m below meth c A C hr hk hnm hE hP hD hA hAB hS ls hl
  have hx := C.1
  have hb := C.2.1
  have hown := C.2.2.2.1
  have hw := C.2.2.2.2
  have hl : lv_has ls 3 [(0, .ref (b 0)), (1, .int p0), (2, .int p1)] := hl
  refine lv_aload_n hx hb dX2_withMonth_0 rfl (lv_at hl 0 rfl) ?_
  refine lv_iload_n hx hb dX2_withMonth_1 rfl (lv_at hl 1 rfl) ?_
  refine rcSi (as := [.int p0]) (rest := [.ref (b 0)]) C (c_X2_isNone l G p0) F_X2_isNone rfl bw1216 bw1217 (hE.S hS hAB) vpn hl.1 dX2_withMonth_2 ⟨Nat.le_of_ble_eq_true rfl, Nat.le_of_ble_eq_true rfl⟩ rfl (Nat.le_of_ble_eq_true rfl) ⟨Nat.le_of_ble_eq_true rfl, Nat.le_of_ble_eq_true rfl⟩ ?_
  refine lv_iconst (v := (1 : Int32)) hx hb dX2_withMonth_5 (by decide) ?_
  refine lv_bipush (v := (12 : Int32)) hx hb dX2_withMonth_6 (by decide) ?_
  refine lv_iload_n hx hb dX2_withMonth_8 rfl (lv_at hl 2 rfl) ?_
  refine rcSi (as := [.int (1 : Int32), .int (12 : Int32), .int p1]) (rest := [.int (fX2_isNone p0), .ref (b 0)]) C (c_X2_isFrom l G (1 : Int32) (12 : Int32) p1) F_X2_isFrom rfl bw1208 bw1209 (hE.S hS hAB) vpn hl.1 dX2_withMonth_9 ⟨Nat.le_of_ble_eq_true rfl, Nat.le_of_ble_eq_true rfl⟩ rfl (Nat.le_of_ble_eq_true rfl) ⟨Nat.le_of_ble_eq_true rfl, Nat.le_of_ble_eq_true rfl⟩ ?_
  refine k_dia (b := (fX2_isFrom (1 : Int32) (12 : Int32) p1) = 0) (x := (1 : Int32)) (y := (0 : Int32)) (Wg := fun z9 => W _ _ _ _ _ _ _ _ _ _ _ _ _ _ _ (F0 m 20 ls (.int z9 :: _))) ?_ (fun t9 f9 => lv_if_ne (tgt := 19) hx hb dX2_withMonth_12 (by decide) (fun c_x => lv_iconst (v := (0 : Int32)) hx hb dX2_withMonth_19 (by decide) (f9 c_x)) (fun c_x => lv_iconst (v := (1 : Int32)) hx hb dX2_withMonth_15 (by decide) (lv_goto (tgt := 20) hx hb dX2_withMonth_16 (by decide) (t9 c_x))))
  refine wcVi (as := [.int (fX2_isNone p0), .int (if (fX2_isFrom (1 : Int32) (12 : Int32) p1) = 0 then (1 : Int32) else (0 : Int32))]) (rest := []) (cl := RX2) C (c_X2_refuses l G b T (fX2_isNone p0) (if (fX2_isFrom (1 : Int32) (12 : Int32) p1) = 0 then (1 : Int32) else (0 : Int32))) F_X2_refuses rfl bw1219 bw1221 bw33 (hE.S hS hAB) hP hD hS hA hAB (va_recv hE.K hP (ci := 4) (q0 := 0) rfl rfl) hl.1 dX2_withMonth_20 ⟨Nat.le_of_ble_eq_true rfl, Nat.le_of_ble_eq_true rfl⟩ rfl (Nat.le_of_ble_eq_true rfl) ⟨Nat.le_of_ble_eq_true rfl, Nat.le_of_ble_eq_true rfl⟩ (fun H locs hP hD hS => ?_)
  have hP : va_P (gD G) vwCl (wM G b ((fth (fX2_isNone p0) (if (fX2_isFrom (1 : Int32) (12 : Int32) p1) = 0 then (1 : Int32) else (0 : Int32))), (my T), (mm T), (md T), (mt T), (T.2.2.2.2.2))) H := hP
  have hD : va_D A (wM G b ((fth (fX2_isNone p0) (if (fX2_isFrom (1 : Int32) (12 : Int32) p1) = 0 then (1 : Int32) else (0 : Int32))), (my T), (mm T), (md T), (mt T), (T.2.2.2.2.2))) := hD
  refine lv_if_eq (tgt := 28) hx hb dX2_withMonth_23 (by decide) (fun c_1 => ?_) (fun c_1 => ?_)
  · have c_1 := rf_p c_1
    refine lv_aload_n hx hb dX2_withMonth_28 rfl (lv_at hl 0 rfl) ?_
    refine lv_iload_n hx hb dX2_withMonth_29 rfl (lv_at hl 1 rfl) ?_
    refine lv_aload_n hx hb dX2_withMonth_30 rfl (lv_at hl 0 rfl) ?_
    refine va_get (D := gD G) (cl := vwCl) (tys := gT G) (ci := 4) (v := .ref (b 1)) (C := RX2) (T := TX2) (N := 12) hx hb hw inB_X2 hown hE.K hP 0 rfl rfl 1 (by decide) (hw _ bw1164) (fun _ h9 => h9) rfl dX2_withMonth_31 ?_
    refine lv_iload_n hx hb dX2_withMonth_34 rfl (lv_at hl 1 rfl) ?_
    refine va_iald (tys := gT G) hx hb hE.K hP 1 0 rfl rfl (none_in (frf_a c_1)) dX2_withMonth_35 ?_
    refine lv_i2l (v := (((my T) p0.toNatClampNeg).toInt64)) hx hb dX2_withMonth_36 (by first | rfl | decide) ?_
    refine lv_iload_n hx hb dX2_withMonth_37 rfl (lv_at hl 2 rfl) ?_
    refine wcVi (as := [.int p0, .long (((my T) p0.toNatClampNeg).toInt64), .int p1]) (rest := []) (cl := RX2) C (c_X2_becomeMonth l G b ((fth (fX2_isNone p0) (if (fX2_isFrom (1 : Int32) (12 : Int32) p1) = 0 then (1 : Int32) else (0 : Int32))), (my T), (mm T), (md T), (mt T), (T.2.2.2.2.2)) p0 (((my T) p0.toNatClampNeg).toInt64) p1 (none_in (frf_a c_1)) (MO.same hT rfl) (from_le (dia1 (frf_b c_1)))) F_X2_becomeMonth rfl bw1308 bw1310 bw40 (hE.S hS hAB) hP hD hS hA hAB (va_recv hE.K hP (ci := 4) (q0 := 0) rfl rfl) hl.1 dX2_withMonth_38 ⟨Nat.le_of_ble_eq_true rfl, Nat.le_of_ble_eq_true rfl⟩ rfl (Nat.le_of_ble_eq_true rfl) ⟨Nat.le_of_ble_eq_true rfl, Nat.le_of_ble_eq_true rfl⟩ (fun H locs hP hD hS => ?_)
    exact we_i (wf := wM G b) hx hb hr hk hP hD hS (Nat.le_of_ble_eq_true rfl) (Nat.le_of_ble_eq_true rfl) dX2_withMonth_41 (if_pos c_1)
  · have c_1 := rf_n c_1
    refine lv_iconst (v := (0 : Int32)) hx hb dX2_withMonth_26 (by decide) ?_
    exact we_i (wf := wM G b) hx hb hr hk hP hD hS (Nat.le_of_ble_eq_true rfl) (Nat.le_of_ble_eq_true rfl) dX2_withMonth_27 (if_neg c_1)

set_option maxRecDepth 100000 in
set_option maxHeartbeats 4000000 in
theorem c_X2_withDayOfMonth (l : Launch) (G : GT) (b : Nat → Nat) (T : SM) (p0 : Int32) (p1 : Int32) (hT : MO T) : WR l G yX2_withDayOfMonth cX2_withDayOfMonth 3 (some .int) 12 0 0 [.ref (b 0), .int p0, .int p1] (wM G b T) (wM G b (gX2_withDayOfMonth T p0 p1).2) (some (.int (gX2_withDayOfMonth T p0 p1).1)) := by
  refine WR.ofW (own := RX2) rfl (by decide +kernel) (Nat.le_of_ble_eq_true rfl) ?_
  intro p e s m below meth c A C hr hk hnm hE hP hD hA hAB hS ls hl
  have hx := C.1
  have hb := C.2.1
  have hown := C.2.2.2.1
  have hw := C.2.2.2.2
  have hl : lv_has ls 3 [(0, .ref (b 0)), (1, .int p0), (2, .int p1)] := hl
  refine lv_aload_n hx hb dX2_withDayOfMonth_0 rfl (lv_at hl 0 rfl) ?_
  refine lv_iload_n hx hb dX2_withDayOfMonth_1 rfl (lv_at hl 1 rfl) ?_
  refine rcSi (as := [.int p0]) (rest := [.ref (b 0)]) C (c_X2_isNone l G p0) F_X2_isNone rfl bw1216 bw1217 (hE.S hS hAB) vpn hl.1 dX2_withDayOfMonth_2 ⟨Nat.le_of_ble_eq_true rfl, Nat.le_of_ble_eq_true rfl⟩ rfl (Nat.le_of_ble_eq_true rfl) ⟨Nat.le_of_ble_eq_true rfl, Nat.le_of_ble_eq_true rfl⟩ ?_
  refine lv_iconst (v := (1 : Int32)) hx hb dX2_withDayOfMonth_5 (by decide) ?_
  refine lv_bipush (v := (31 : Int32)) hx hb dX2_withDayOfMonth_6 (by decide) ?_
  refine lv_iload_n hx hb dX2_withDayOfMonth_8 rfl (lv_at hl 2 rfl) ?_
  refine rcSi (as := [.int (1 : Int32), .int (31 : Int32), .int p1]) (rest := [.int (fX2_isNone p0), .ref (b 0)]) C (c_X2_isFrom l G (1 : Int32) (31 : Int32) p1) F_X2_isFrom rfl bw1208 bw1209 (hE.S hS hAB) vpn hl.1 dX2_withDayOfMonth_9 ⟨Nat.le_of_ble_eq_true rfl, Nat.le_of_ble_eq_true rfl⟩ rfl (Nat.le_of_ble_eq_true rfl) ⟨Nat.le_of_ble_eq_true rfl, Nat.le_of_ble_eq_true rfl⟩ ?_
  refine k_dia (b := (fX2_isFrom (1 : Int32) (31 : Int32) p1) = 0) (x := (1 : Int32)) (y := (0 : Int32)) (Wg := fun z9 => W _ _ _ _ _ _ _ _ _ _ _ _ _ _ _ (F0 m 20 ls (.int z9 :: _))) ?_ (fun t9 f9 => lv_if_ne (tgt := 19) hx hb dX2_withDayOfMonth_12 (by decide) (fun c_x => lv_iconst (v := (0 : Int32)) hx hb dX2_withDayOfMonth_19 (by decide) (f9 c_x)) (fun c_x => lv_iconst (v := (1 : Int32)) hx hb dX2_withDayOfMonth_15 (by decide) (lv_goto (tgt := 20) hx hb dX2_withDayOfMonth_16 (by decide) (t9 c_x))))
  refine wcVi (as := [.int (fX2_isNone p0), .int (if (fX2_isFrom (1 : Int32) (31 : Int32) p1) = 0 then (1 : Int32) else (0 : Int32))]) (rest := []) (cl := RX2) C (c_X2_refuses l G b T (fX2_isNone p0) (if (fX2_isFrom (1 : Int32) (31 : Int32) p1) = 0 then (1 : Int32) else (0 : Int32))) F_X2_refuses rfl bw1219 bw1221 bw33 (hE.S hS hAB) hP hD hS hA hAB (va_recv hE.K hP (ci := 4) (q0 := 0) rfl rfl) hl.1 dX2_withDayOfMonth_20 ⟨Nat.le_of_ble_eq_true rfl, Nat.le_of_ble_eq_true rfl⟩ rfl (Nat.le_of_ble_eq_true rfl) ⟨Nat.le_of_ble_eq_true rfl, Nat.le_of_ble_eq_true rfl⟩ (fun H locs hP hD hS => ?_)
  have hP : va_P (gD G) vwCl (wM G b ((fth (fX2_isNone p0) (if (fX2_isFrom (1 : Int32) (31 : Int32) p1) = 0 then (1 : Int32) else (0 : Int32))), (my T), (mm T), (md T), (mt T), (T.2.2.2.2.2))) H := hP
  have hD : va_D A (wM G b ((fth (fX2_isNone p0) (if (fX2_isFrom (1 : Int32) (31 : Int32) p1) = 0 then (1 : Int32) else (0 : Int32))), (my T), (mm T), (md T), (mt T), (T.2.2.2.2.2))) := hD
  refine lv_if_eq (tgt := 28) hx hb dX2_withDayOfMonth_23 (by decide) (fun c_1 => ?_) (fun c_1 => ?_)
  · have c_1 := rf_p c_1
    refine lv_iload_n hx hb dX2_withDayOfMonth_28 rfl (lv_at hl 2 rfl) ?_
    refine lv_aload_n hx hb dX2_withDayOfMonth_29 rfl (lv_at hl 0 rfl) ?_
    refine va_get (D := gD G) (cl := vwCl) (tys := gT G) (ci := 4) (v := .ref (b 1)) (C := RX2) (T := TX2) (N := 12) hx hb hw inB_X2 hown hE.K hP 0 rfl rfl 1 (by decide) (hw _ bw1164) (fun _ h9 => h9) rfl dX2_withDayOfMonth_30 ?_
    refine lv_iload_n hx hb dX2_withDayOfMonth_33 rfl (lv_at hl 1 rfl) ?_
    refine va_iald (tys := gT G) hx hb hE.K hP 1 0 rfl rfl (none_in (frf_a c_1)) dX2_withDayOfMonth_34 ?_
    refine lv_aload_n hx hb dX2_withDayOfMonth_35 rfl (lv_at hl 0 rfl) ?_
    refine va_get (D := gD G) (cl := vwCl) (tys := gT G) (ci := 4) (v := .ref (b 2)) (C := RX2) (T := TX2) (N := 12) hx hb hw inB_X2 hown hE.K hP 0 rfl rfl 2 (by decide) (hw _ bw1165) (fun _ h9 => h9) rfl dX2_withDayOfMonth_36 ?_
    refine lv_iload_n hx hb dX2_withDayOfMonth_39 rfl (lv_at hl 1 rfl) ?_
    refine va_iald (tys := gT G) hx hb hE.K hP 2 0 rfl rfl (none_in (frf_a c_1)) dX2_withDayOfMonth_40 ?_
    refine rcSi (as := [.int ((my T) p0.toNatClampNeg), .int ((mm T) p0.toNatClampNeg)]) (rest := [.int p1]) C (c_X2_daysOf l G ((my T) p0.toNatClampNeg) ((mm T) p0.toNatClampNeg)) F_X2_daysOf rfl bw1223 bw1224 (hE.S hS hAB) vpn hl.1 dX2_withDayOfMonth_41 ⟨Nat.le_of_ble_eq_true rfl, Nat.le_of_ble_eq_true rfl⟩ rfl (Nat.le_of_ble_eq_true rfl) ⟨Nat.le_of_ble_eq_true rfl, Nat.le_of_ble_eq_true rfl⟩ ?_
    refine lv_icmp_le (tgt := 52) hx hb dX2_withDayOfMonth_44 (by decide) (fun c_2 => ?_) (fun c_2 => ?_)
    · refine lv_aload_n hx hb dX2_withDayOfMonth_52 rfl (lv_at hl 0 rfl) ?_
      refine lv_iload_n hx hb dX2_withDayOfMonth_53 rfl (lv_at hl 1 rfl) ?_
      refine lv_aload_n hx hb dX2_withDayOfMonth_54 rfl (lv_at hl 0 rfl) ?_
      refine va_get (D := gD G) (cl := vwCl) (tys := gT G) (ci := 4) (v := .ref (b 1)) (C := RX2) (T := TX2) (N := 12) hx hb hw inB_X2 hown hE.K hP 0 rfl rfl 1 (by decide) (hw _ bw1164) (fun _ h9 => h9) rfl dX2_withDayOfMonth_55 ?_
      refine lv_iload_n hx hb dX2_withDayOfMonth_58 rfl (lv_at hl 1 rfl) ?_
      refine va_iald (tys := gT G) hx hb hE.K hP 1 0 rfl rfl (none_in (frf_a c_1)) dX2_withDayOfMonth_59 ?_
      refine lv_aload_n hx hb dX2_withDayOfMonth_60 rfl (lv_at hl 0 rfl) ?_
      refine va_get (D := gD G) (cl := vwCl) (tys := gT G) (ci := 4) (v := .ref (b 2)) (C := RX2) (T := TX2) (N := 12) hx hb hw inB_X2 hown hE.K hP 0 rfl rfl 2 (by decide) (hw _ bw1165) (fun _ h9 => h9) rfl dX2_withDayOfMonth_61 ?_
      refine lv_iload_n hx hb dX2_withDayOfMonth_64 rfl (lv_at hl 1 rfl) ?_
      refine va_iald (tys := gT G) hx hb hE.K hP 2 0 rfl rfl (none_in (frf_a c_1)) dX2_withDayOfMonth_65 ?_
      refine lv_iload_n hx hb dX2_withDayOfMonth_66 rfl (lv_at hl 2 rfl) ?_
      refine lv_aload_n hx hb dX2_withDayOfMonth_67 rfl (lv_at hl 0 rfl) ?_
      refine va_get (D := gD G) (cl := vwCl) (tys := gT G) (ci := 4) (v := .ref (b 4)) (C := RX2) (T := TX2) (N := 12) hx hb hw inB_X2 hown hE.K hP 0 rfl rfl 4 (by decide) (hw _ bw1167) (fun _ h9 => h9) rfl dX2_withDayOfMonth_68 ?_
      refine lv_iload_n hx hb dX2_withDayOfMonth_71 rfl (lv_at hl 1 rfl) ?_
      refine va_lald (tys := gT G) hx hb hE.K hP 4 1 rfl rfl (none_in (frf_a c_1)) dX2_withDayOfMonth_72 ?_
      refine wcVi (as := [.int p0, .int ((my T) p0.toNatClampNeg), .int ((mm T) p0.toNatClampNeg), .int p1, .long ((mt T) p0.toNatClampNeg)]) (rest := []) (cl := RX2) C (c_X2_become l G b ((fth (fX2_isNone p0) (if (fX2_isFrom (1 : Int32) (31 : Int32) p1) = 0 then (1 : Int32) else (0 : Int32))), (my T), (mm T), (md T), (mt T), (T.2.2.2.2.2)) p0 ((my T) p0.toNatClampNeg) ((mm T) p0.toNatClampNeg) p1 ((mt T) p0.toNatClampNeg) (none_in (frf_a c_1)) (MO.same hT rfl) (MO.at hT (none_in (frf_a c_1)))) F_X2_become rfl bw1239 bw1241 bw36 (hE.S hS hAB) hP hD hS hA hAB (va_recv hE.K hP (ci := 4) (q0 := 0) rfl rfl) hl.1 dX2_withDayOfMonth_73 ⟨Nat.le_of_ble_eq_true rfl, Nat.le_of_ble_eq_true rfl⟩ rfl (Nat.le_of_ble_eq_true rfl) ⟨Nat.le_of_ble_eq_true rfl, Nat.le_of_ble_eq_true rfl⟩ (fun H locs hP hD hS => ?_)
      exact we_i (wf := wM G b) hx hb hr hk hP hD hS (Nat.le_of_ble_eq_true rfl) (Nat.le_of_ble_eq_true rfl) dX2_withDayOfMonth_76 (Eq.trans (if_pos c_1) (if_pos c_2))
    · refine lv_aload_n hx hb dX2_withDayOfMonth_47 rfl (lv_at hl 0 rfl) ?_
      refine wcVi (as := []) (rest := []) (cl := RX2) C (c_X2_refuse l G b ((fth (fX2_isNone p0) (if (fX2_isFrom (1 : Int32) (31 : Int32) p1) = 0 then (1 : Int32) else (0 : Int32))), (my T), (mm T), (md T), (mt T), (T.2.2.2.2.2))) F_X2_refuse rfl bw1229 bw1231 bw34 (hE.S hS hAB) hP hD hS hA hAB (va_recv hE.K hP (ci := 4) (q0 := 0) rfl rfl) hl.1 dX2_withDayOfMonth_48 ⟨Nat.le_of_ble_eq_true rfl, Nat.le_of_ble_eq_true rfl⟩ rfl (Nat.le_of_ble_eq_true rfl) ⟨Nat.le_of_ble_eq_true rfl, Nat.le_of_ble_eq_true rfl⟩ (fun H locs hP hD hS => ?_)
      exact we_i (wf := wM G b) hx hb hr hk hP hD hS (Nat.le_of_ble_eq_true rfl) (Nat.le_of_ble_eq_true rfl) dX2_withDayOfMonth_51 (Eq.trans (if_pos c_1) (if_neg c_2))
  · have c_1 := rf_n c_1
    refine lv_iconst (v := (0 : Int32)) hx hb dX2_withDayOfMonth_26 (by decide) ?_
    exact we_i (wf := wM G b) hx hb hr hk hP hD hS (Nat.le_of_ble_eq_true rfl) (Nat.le_of_ble_eq_true rfl) dX2_withDayOfMonth_27 (if_neg c_1)

