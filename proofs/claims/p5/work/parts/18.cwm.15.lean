set_option maxRecDepth 100000 in
set_option maxHeartbeats 4000000 in
theorem c_X2_minute (l : Launch) (G : GT) (b : Nat → Nat) (T : SM) (p0 : Int32) (hT : MO T) : WR l G yX2_minute cX2_minute 2 (some .int) 12 0 0 [.ref (b 0), .int p0] (wM G b T) (wM G b (gX2_minute T p0).2) (some (.int (gX2_minute T p0).1)) := by
  refine WR.ofW (own := RX2) rfl (by decide +kernel) (Nat.le_of_ble_eq_true rfl) ?_
  intro p e s m below meth c A C hr hk hnm hE hP hD hA hAB hS ls hl
  have hx := C.1
  have hb := C.2.1
  have hown := C.2.2.2.1
  have hw := C.2.2.2.2
  have hl : lv_has ls 2 [(0, .ref (b 0)), (1, .int p0)] := hl
  refine lv_aload_n hx hb dX2_minute_0 rfl (lv_at hl 0 rfl) ?_
  refine lv_iload_n hx hb dX2_minute_1 rfl (lv_at hl 1 rfl) ?_
  refine rcSi (as := [.int p0]) (rest := [.ref (b 0)]) C (c_X2_isNone l G p0) F_X2_isNone rfl bw1216 bw1217 (hE.S hS hAB) vpn hl.1 dX2_minute_2 ⟨Nat.le_of_ble_eq_true rfl, Nat.le_of_ble_eq_true rfl⟩ rfl (Nat.le_of_ble_eq_true rfl) ⟨Nat.le_of_ble_eq_true rfl, Nat.le_of_ble_eq_true rfl⟩ ?_
  refine lv_iconst (v := (0 : Int32)) hx hb dX2_minute_5 (by decide) ?_
  refine wcVi (as := [.int (fX2_isNone p0), .int (0 : Int32)]) (rest := []) (cl := RX2) C (c_X2_refuses l G b T (fX2_isNone p0) (0 : Int32)) F_X2_refuses rfl bw1219 bw1221 bw33 (hE.S hS hAB) hP hD hS hA hAB (va_recv hE.K hP (ci := 4) (q0 := 0) rfl rfl) hl.1 dX2_minute_6 ⟨Nat.le_of_ble_eq_true rfl, Nat.le_of_ble_eq_true rfl⟩ rfl (Nat.le_of_ble_eq_true rfl) ⟨Nat.le_of_ble_eq_true rfl, Nat.le_of_ble_eq_true rfl⟩ (fun H locs hP hD hS => ?_)
  have hP : va_P (gD G) vwCl (wM G b ((fth (fX2_isNone p0) (0 : Int32)), (my T), (mm T), (md T), (mt T), (T.2.2.2.2.2))) H := hP
  have hD : va_D A (wM G b ((fth (fX2_isNone p0) (0 : Int32)), (my T), (mm T), (md T), (mt T), (T.2.2.2.2.2))) := hD
  refine lv_if_eq (tgt := 16) hx hb dX2_minute_9 (by decide) (fun c_1 => ?_) (fun c_1 => ?_)
  · have c_1 := rf_p c_1
    refine lv_aload_n hx hb dX2_minute_16 rfl (lv_at hl 0 rfl) ?_
    refine lv_iload_n hx hb dX2_minute_17 rfl (lv_at hl 1 rfl) ?_
    refine lv_iconst (v := (4 : Int32)) hx hb dX2_minute_18 (by decide) ?_
    refine rcSl (as := [.int (4 : Int32)]) (rest := [.int p0, .ref (b 0)]) C (c_X2_nanosOf l G (4 : Int32)) F_X2_nanosOf rfl bw1354 bw1355 (hE.S hS hAB) vpn hl.1 dX2_minute_19 ⟨Nat.le_of_ble_eq_true rfl, Nat.le_of_ble_eq_true rfl⟩ rfl (Nat.le_of_ble_eq_true rfl) ⟨Nat.le_of_ble_eq_true rfl, Nat.le_of_ble_eq_true rfl⟩ ?_
    refine lv_ldc2 (v := (60 : Int64)) hx hb hown (hw _ bw1237) dX2_minute_22 ?_
    refine rcVi (as := [.int p0, .long (fX2_nanosOf (4 : Int32)), .long (60 : Int64)]) (rest := []) (cl := RX2) C (c_X2_part l G b ((fth (fX2_isNone p0) (0 : Int32)), (my T), (mm T), (md T), (mt T), (T.2.2.2.2.2)) p0 (fX2_nanosOf (4 : Int32)) (60 : Int64) (none_in (frf_a c_1)) (nz_nanosOf (4 : Int32)) (by decide)) F_X2_part rfl bw1476 bw1478 bw45 (hE.S hS hAB) hP (va_recv hE.K hP (ci := 4) (q0 := 0) rfl rfl) hl.1 dX2_minute_25 ⟨Nat.le_of_ble_eq_true rfl, Nat.le_of_ble_eq_true rfl⟩ rfl (Nat.le_of_ble_eq_true rfl) ⟨Nat.le_of_ble_eq_true rfl, Nat.le_of_ble_eq_true rfl⟩ ?_
    exact we_i (wf := wM G b) hx hb hr hk hP hD hS (Nat.le_of_ble_eq_true rfl) (Nat.le_of_ble_eq_true rfl) dX2_minute_28 (if_pos c_1)
  · have c_1 := rf_n c_1
    refine lv_iconst (v := (0 : Int32)) hx hb dX2_minute_12 (by decide) ?_
    refine lv_goto (tgt := 28) hx hb dX2_minute_13 (by decide) ?_
    exact we_i (wf := wM G b) hx hb hr hk hP hD hS (Nat.le_of_ble_eq_true rfl) (Nat.le_of_ble_eq_true rfl) dX2_minute_28 (if_neg c_1)

set_option maxRecDepth 100000 in
set_option maxHeartbeats 4000000 in
theorem c_X2_second (l : Launch) (G : GT) (b : Nat → Nat) (T : SM) (p0 : Int32) (hT : MO T) : WR l G yX2_second cX2_second 2 (some .int) 12 0 0 [.ref (b 0), .int p0] (wM G b T) (wM G b (gX2_second T p0).2) (some (.int (gX2_second T p0).1)) := by
  refine WR.ofW (own := RX2) rfl (by decide +kernel) (Nat.le_of_ble_eq_true rfl) ?_
  intro p e s m below meth c A C hr hk hnm hE hP hD hA hAB hS ls hl
  have hx := C.1
  have hb := C.2.1
  have hown := C.2.2.2.1
  have hw := C.2.2.2.2
  have hl : lv_has ls 2 [(0, .ref (b 0)), (1, .int p0)] := hl
  refine lv_aload_n hx hb dX2_second_0 rfl (lv_at hl 0 rfl) ?_
  refine lv_iload_n hx hb dX2_second_1 rfl (lv_at hl 1 rfl) ?_
  refine rcSi (as := [.int p0]) (rest := [.ref (b 0)]) C (c_X2_isNone l G p0) F_X2_isNone rfl bw1216 bw1217 (hE.S hS hAB) vpn hl.1 dX2_second_2 ⟨Nat.le_of_ble_eq_true rfl, Nat.le_of_ble_eq_true rfl⟩ rfl (Nat.le_of_ble_eq_true rfl) ⟨Nat.le_of_ble_eq_true rfl, Nat.le_of_ble_eq_true rfl⟩ ?_
  refine lv_iconst (v := (0 : Int32)) hx hb dX2_second_5 (by decide) ?_
  refine wcVi (as := [.int (fX2_isNone p0), .int (0 : Int32)]) (rest := []) (cl := RX2) C (c_X2_refuses l G b T (fX2_isNone p0) (0 : Int32)) F_X2_refuses rfl bw1219 bw1221 bw33 (hE.S hS hAB) hP hD hS hA hAB (va_recv hE.K hP (ci := 4) (q0 := 0) rfl rfl) hl.1 dX2_second_6 ⟨Nat.le_of_ble_eq_true rfl, Nat.le_of_ble_eq_true rfl⟩ rfl (Nat.le_of_ble_eq_true rfl) ⟨Nat.le_of_ble_eq_true rfl, Nat.le_of_ble_eq_true rfl⟩ (fun H locs hP hD hS => ?_)
  have hP : va_P (gD G) vwCl (wM G b ((fth (fX2_isNone p0) (0 : Int32)), (my T), (mm T), (md T), (mt T), (T.2.2.2.2.2))) H := hP
  have hD : va_D A (wM G b ((fth (fX2_isNone p0) (0 : Int32)), (my T), (mm T), (md T), (mt T), (T.2.2.2.2.2))) := hD
  refine lv_if_eq (tgt := 16) hx hb dX2_second_9 (by decide) (fun c_1 => ?_) (fun c_1 => ?_)
  · have c_1 := rf_p c_1
    refine lv_aload_n hx hb dX2_second_16 rfl (lv_at hl 0 rfl) ?_
    refine lv_iload_n hx hb dX2_second_17 rfl (lv_at hl 1 rfl) ?_
    refine lv_ldc2 (v := (1000000000 : Int64)) hx hb hown (hw _ bw1238) dX2_second_18 ?_
    refine lv_ldc2 (v := (60 : Int64)) hx hb hown (hw _ bw1237) dX2_second_21 ?_
    refine rcVi (as := [.int p0, .long (1000000000 : Int64), .long (60 : Int64)]) (rest := []) (cl := RX2) C (c_X2_part l G b ((fth (fX2_isNone p0) (0 : Int32)), (my T), (mm T), (md T), (mt T), (T.2.2.2.2.2)) p0 (1000000000 : Int64) (60 : Int64) (none_in (frf_a c_1)) (by decide) (by decide)) F_X2_part rfl bw1476 bw1478 bw45 (hE.S hS hAB) hP (va_recv hE.K hP (ci := 4) (q0 := 0) rfl rfl) hl.1 dX2_second_24 ⟨Nat.le_of_ble_eq_true rfl, Nat.le_of_ble_eq_true rfl⟩ rfl (Nat.le_of_ble_eq_true rfl) ⟨Nat.le_of_ble_eq_true rfl, Nat.le_of_ble_eq_true rfl⟩ ?_
    exact we_i (wf := wM G b) hx hb hr hk hP hD hS (Nat.le_of_ble_eq_true rfl) (Nat.le_of_ble_eq_true rfl) dX2_second_27 (if_pos c_1)
  · have c_1 := rf_n c_1
    refine lv_iconst (v := (0 : Int32)) hx hb dX2_second_12 (by decide) ?_
    refine lv_goto (tgt := 27) hx hb dX2_second_13 (by decide) ?_
    exact we_i (wf := wM G b) hx hb hr hk hP hD hS (Nat.le_of_ble_eq_true rfl) (Nat.le_of_ble_eq_true rfl) dX2_second_27 (if_neg c_1)

set_option maxRecDepth 100000 in
set_option maxHeartbeats 4000000 in
theorem c_X2_nano (l : Launch) (G : GT) (b : Nat → Nat) (T : SM) (p0 : Int32) (hT : MO T) : WR l G yX2_nano cX2_nano 2 (some .int) 12 0 0 [.ref (b 0), .int p0] (wM G b T) (wM G b (gX2_nano T p0).2) (some (.int (gX2_nano T p0).1)) := by
  refine WR.ofW (own := RX2) rfl (by decide +kernel) (Nat.le_of_ble_eq_true rfl) ?_
  intro p e s m below meth c A C hr hk hnm hE hP hD hA hAB hS ls hl
  have hx := C.1
  have hb := C.2.1
  have hown := C.2.2.2.1
  have hw := C.2.2.2.2
  have hl : lv_has ls 2 [(0, .ref (b 0)), (1, .int p0)] := hl
  refine lv_aload_n hx hb dX2_nano_0 rfl (lv_at hl 0 rfl) ?_
  refine lv_iload_n hx hb dX2_nano_1 rfl (lv_at hl 1 rfl) ?_
  refine rcSi (as := [.int p0]) (rest := [.ref (b 0)]) C (c_X2_isNone l G p0) F_X2_isNone rfl bw1216 bw1217 (hE.S hS hAB) vpn hl.1 dX2_nano_2 ⟨Nat.le_of_ble_eq_true rfl, Nat.le_of_ble_eq_true rfl⟩ rfl (Nat.le_of_ble_eq_true rfl) ⟨Nat.le_of_ble_eq_true rfl, Nat.le_of_ble_eq_true rfl⟩ ?_
  refine lv_iconst (v := (0 : Int32)) hx hb dX2_nano_5 (by decide) ?_
  refine wcVi (as := [.int (fX2_isNone p0), .int (0 : Int32)]) (rest := []) (cl := RX2) C (c_X2_refuses l G b T (fX2_isNone p0) (0 : Int32)) F_X2_refuses rfl bw1219 bw1221 bw33 (hE.S hS hAB) hP hD hS hA hAB (va_recv hE.K hP (ci := 4) (q0 := 0) rfl rfl) hl.1 dX2_nano_6 ⟨Nat.le_of_ble_eq_true rfl, Nat.le_of_ble_eq_true rfl⟩ rfl (Nat.le_of_ble_eq_true rfl) ⟨Nat.le_of_ble_eq_true rfl, Nat.le_of_ble_eq_true rfl⟩ (fun H locs hP hD hS => ?_)
  have hP : va_P (gD G) vwCl (wM G b ((fth (fX2_isNone p0) (0 : Int32)), (my T), (mm T), (md T), (mt T), (T.2.2.2.2.2))) H := hP
  have hD : va_D A (wM G b ((fth (fX2_isNone p0) (0 : Int32)), (my T), (mm T), (md T), (mt T), (T.2.2.2.2.2))) := hD
  refine lv_if_eq (tgt := 16) hx hb dX2_nano_9 (by decide) (fun c_1 => ?_) (fun c_1 => ?_)
  · have c_1 := rf_p c_1
    refine lv_aload_n hx hb dX2_nano_16 rfl (lv_at hl 0 rfl) ?_
    refine lv_iload_n hx hb dX2_nano_17 rfl (lv_at hl 1 rfl) ?_
    refine lv_lconst (v := (1 : Int64)) hx hb dX2_nano_18 (by decide) ?_
    refine lv_ldc2 (v := (1000000000 : Int64)) hx hb hown (hw _ bw1238) dX2_nano_19 ?_
    refine rcVi (as := [.int p0, .long (1 : Int64), .long (1000000000 : Int64)]) (rest := []) (cl := RX2) C (c_X2_part l G b ((fth (fX2_isNone p0) (0 : Int32)), (my T), (mm T), (md T), (mt T), (T.2.2.2.2.2)) p0 (1 : Int64) (1000000000 : Int64) (none_in (frf_a c_1)) (by decide) (by decide)) F_X2_part rfl bw1476 bw1478 bw45 (hE.S hS hAB) hP (va_recv hE.K hP (ci := 4) (q0 := 0) rfl rfl) hl.1 dX2_nano_22 ⟨Nat.le_of_ble_eq_true rfl, Nat.le_of_ble_eq_true rfl⟩ rfl (Nat.le_of_ble_eq_true rfl) ⟨Nat.le_of_ble_eq_true rfl, Nat.le_of_ble_eq_true rfl⟩ ?_
    exact we_i (wf := wM G b) hx hb hr hk hP hD hS (Nat.le_of_ble_eq_true rfl) (Nat.le_of_ble_eq_true rfl) dX2_nano_25 (if_pos c_1)
  · have c_1 := rf_n c_1
    refine lv_iconst (v := (0 : Int32)) hx hb dX2_nano_12 (by decide) ?_
    refine lv_goto (tgt := 25) hx hb dX2_nano_13 (by decide) ?_
    exact we_i (wf := wM G b) hx hb hr hk hP hD hS (Nat.le_of_ble_eq_true rfl) (Nat.le_of_ble_eq_true rfl) dX2_nano_25 (if_neg c_1)

set_option maxRecDepth 100000 in
set_option maxHeartbeats 4000000 in
theorem c_X2_day (l : Launch) (G : GT) (b : Nat → Nat) (T : SM) (p0 : Int32) (hT : MO T) : WR l G yX2_day cX2_day 2 (some .int) 12 0 0 [.ref (b 0), .int p0] (wM G b T) (wM G b (gX2_day T p0).2) (some (.int (gX2_day T p0).1)) := by
  refine WR.ofW (own := RX2) rfl (by decide +kernel) (Nat.le_of_ble_eq_true rfl) ?_
  intro p e s m below meth c A C hr hk hnm hE hP hD hA hAB hS ls hl
  have hx := C.1
  have hb := C.2.1
  have hown := C.2.2.2.1
  have hw := C.2.2.2.2
  have hl : lv_has ls 2 [(0, .ref (b 0)), (1, .int p0)] := hl
  refine lv_aload_n hx hb dX2_day_0 rfl (lv_at hl 0 rfl) ?_
  refine lv_iload_n hx hb dX2_day_1 rfl (lv_at hl 1 rfl) ?_
  refine rcSi (as := [.int p0]) (rest := [.ref (b 0)]) C (c_X2_isNone l G p0) F_X2_isNone rfl bw1216 bw1217 (hE.S hS hAB) vpn hl.1 dX2_day_2 ⟨Nat.le_of_ble_eq_true rfl, Nat.le_of_ble_eq_true rfl⟩ rfl (Nat.le_of_ble_eq_true rfl) ⟨Nat.le_of_ble_eq_true rfl, Nat.le_of_ble_eq_true rfl⟩ ?_
  refine lv_iconst (v := (0 : Int32)) hx hb dX2_day_5 (by decide) ?_
  refine wcVi (as := [.int (fX2_isNone p0), .int (0 : Int32)]) (rest := []) (cl := RX2) C (c_X2_refuses l G b T (fX2_isNone p0) (0 : Int32)) F_X2_refuses rfl bw1219 bw1221 bw33 (hE.S hS hAB) hP hD hS hA hAB (va_recv hE.K hP (ci := 4) (q0 := 0) rfl rfl) hl.1 dX2_day_6 ⟨Nat.le_of_ble_eq_true rfl, Nat.le_of_ble_eq_true rfl⟩ rfl (Nat.le_of_ble_eq_true rfl) ⟨Nat.le_of_ble_eq_true rfl, Nat.le_of_ble_eq_true rfl⟩ (fun H locs hP hD hS => ?_)
  have hP : va_P (gD G) vwCl (wM G b ((fth (fX2_isNone p0) (0 : Int32)), (my T), (mm T), (md T), (mt T), (T.2.2.2.2.2))) H := hP
  have hD : va_D A (wM G b ((fth (fX2_isNone p0) (0 : Int32)), (my T), (mm T), (md T), (mt T), (T.2.2.2.2.2))) := hD
  refine lv_if_eq (tgt := 16) hx hb dX2_day_9 (by decide) (fun c_1 => ?_) (fun c_1 => ?_)
  · have c_1 := rf_p c_1
    refine lv_aload_n hx hb dX2_day_16 rfl (lv_at hl 0 rfl) ?_
    refine lv_iload_n hx hb dX2_day_17 rfl (lv_at hl 1 rfl) ?_
    refine rcVl (as := [.int p0]) (rest := []) (cl := RX2) C (c_X2_dayNow l G b ((fth (fX2_isNone p0) (0 : Int32)), (my T), (mm T), (md T), (mt T), (T.2.2.2.2.2)) p0 (none_in (frf_a c_1)) (MO.same hT rfl)) F_X2_dayNow rfl bw1247 bw1249 bw38 (hE.S hS hAB) hP (va_recv hE.K hP (ci := 4) (q0 := 0) rfl rfl) hl.1 dX2_day_18 ⟨Nat.le_of_ble_eq_true rfl, Nat.le_of_ble_eq_true rfl⟩ rfl (Nat.le_of_ble_eq_true rfl) ⟨Nat.le_of_ble_eq_true rfl, Nat.le_of_ble_eq_true rfl⟩ ?_
    refine lv_l2i (v := ((fX2_dayNow ((fth (fX2_isNone p0) (0 : Int32)), (my T), (mm T), (md T), (mt T), (T.2.2.2.2.2)) p0).toInt32)) hx hb dX2_day_21 (by first | rfl | decide) ?_
    exact we_i (wf := wM G b) hx hb hr hk hP hD hS (Nat.le_of_ble_eq_true rfl) (Nat.le_of_ble_eq_true rfl) dX2_day_22 (if_pos c_1)
  · have c_1 := rf_n c_1
    refine lv_iconst (v := (0 : Int32)) hx hb dX2_day_12 (by decide) ?_
    refine lv_goto (tgt := 22) hx hb dX2_day_13 (by decide) ?_
    exact we_i (wf := wM G b) hx hb hr hk hP hD hS (Nat.le_of_ble_eq_true rfl) (Nat.le_of_ble_eq_true rfl) dX2_day_22 (if_neg c_1)

set_option maxRecDepth 100000 in
set_option maxHeartbeats 4000000 in
theorem c_X2_secondOfDay (l : Launch) (G : GT) (b : Nat → Nat) (T : SM) (p0 : Int32) (hT : MO T) : WR l G yX2_secondOfDay cX2_secondOfDay 2 (some .int) 12 0 0 [.ref (b 0), .int p0] (wM G b T) (wM G b (gX2_secondOfDay T p0).2) (some (.int (gX2_secondOfDay T p0).1)) := by
  refine WR.ofW (own := RX2) rfl (by decide +kernel) (Nat.le_of_ble_eq_true rfl) ?_
  intro p e s m below meth c A C hr hk hnm hE hP hD hA hAB hS ls hl
  have hx := C.1
  have hb := C.2.1
  have hown := C.2.2.2.1
  have hw := C.2.2.2.2
  have hl : lv_has ls 2 [(0, .ref (b 0)), (1, .int p0)] := hl
  refine lv_aload_n hx hb dX2_secondOfDay_0 rfl (lv_at hl 0 rfl) ?_
  refine lv_iload_n hx hb dX2_secondOfDay_1 rfl (lv_at hl 1 rfl) ?_
  refine rcSi (as := [.int p0]) (rest := [.ref (b 0)]) C (c_X2_isNone l G p0) F_X2_isNone rfl bw1216 bw1217 (hE.S hS hAB) vpn hl.1 dX2_secondOfDay_2 ⟨Nat.le_of_ble_eq_true rfl, Nat.le_of_ble_eq_true rfl⟩ rfl (Nat.le_of_ble_eq_true rfl) ⟨Nat.le_of_ble_eq_true rfl, Nat.le_of_ble_eq_true rfl⟩ ?_
  refine lv_iconst (v := (0 : Int32)) hx hb dX2_secondOfDay_5 (by decide) ?_
  refine wcVi (as := [.int (fX2_isNone p0), .int (0 : Int32)]) (rest := []) (cl := RX2) C (c_X2_refuses l G b T (fX2_isNone p0) (0 : Int32)) F_X2_refuses rfl bw1219 bw1221 bw33 (hE.S hS hAB) hP hD hS hA hAB (va_recv hE.K hP (ci := 4) (q0 := 0) rfl rfl) hl.1 dX2_secondOfDay_6 ⟨Nat.le_of_ble_eq_true rfl, Nat.le_of_ble_eq_true rfl⟩ rfl (Nat.le_of_ble_eq_true rfl) ⟨Nat.le_of_ble_eq_true rfl, Nat.le_of_ble_eq_true rfl⟩ (fun H locs hP hD hS => ?_)
  have hP : va_P (gD G) vwCl (wM G b ((fth (fX2_isNone p0) (0 : Int32)), (my T), (mm T), (md T), (mt T), (T.2.2.2.2.2))) H := hP
  have hD : va_D A (wM G b ((fth (fX2_isNone p0) (0 : Int32)), (my T), (mm T), (md T), (mt T), (T.2.2.2.2.2))) := hD
  refine lv_if_eq (tgt := 16) hx hb dX2_secondOfDay_9 (by decide) (fun c_1 => ?_) (fun c_1 => ?_)
  · have c_1 := rf_p c_1
    refine lv_aload_n hx hb dX2_secondOfDay_16 rfl (lv_at hl 0 rfl) ?_
    refine lv_iload_n hx hb dX2_secondOfDay_17 rfl (lv_at hl 1 rfl) ?_
    refine lv_ldc2 (v := (1000000000 : Int64)) hx hb hown (hw _ bw1238) dX2_secondOfDay_18 ?_
    refine lv_ldc2 (v := (86400 : Int64)) hx hb hown (hw _ bw1500) dX2_secondOfDay_21 ?_
    refine rcVi (as := [.int p0, .long (1000000000 : Int64), .long (86400 : Int64)]) (rest := []) (cl := RX2) C (c_X2_part l G b ((fth (fX2_isNone p0) (0 : Int32)), (my T), (mm T), (md T), (mt T), (T.2.2.2.2.2)) p0 (1000000000 : Int64) (86400 : Int64) (none_in (frf_a c_1)) (by decide) (by decide)) F_X2_part rfl bw1476 bw1478 bw45 (hE.S hS hAB) hP (va_recv hE.K hP (ci := 4) (q0 := 0) rfl rfl) hl.1 dX2_secondOfDay_24 ⟨Nat.le_of_ble_eq_true rfl, Nat.le_of_ble_eq_true rfl⟩ rfl (Nat.le_of_ble_eq_true rfl) ⟨Nat.le_of_ble_eq_true rfl, Nat.le_of_ble_eq_true rfl⟩ ?_
    exact we_i (wf := wM G b) hx hb hr hk hP hD hS (Nat.le_of_ble_eq_true rfl) (Nat.le_of_ble_eq_true rfl) dX2_secondOfDay_27 (if_pos c_1)
  · have c_1 := rf_n c_1
    refine lv_iconst (v := (0 : Int32)) hx hb dX2_secondOfDay_12 (by decide) ?_
    refine lv_goto (tgt := 27) hx hb dX2_secondOfDay_13 (by decide) ?_
    exact we_i (wf := wM G b) hx hb hr hk hP hD hS (Nat.le_of_ble_eq_true rfl) (Nat.le_of_ble_eq_true rfl) dX2_secondOfDay_27 (if_neg c_1)

