set_option maxRecDepth 100000 in
set_option maxHeartbeats 4000000 in
theorem c_X2_plusWeeks (l : Launch) (G : GT) (b : Nat → Nat) (T : SM) (p0 : Int32) (p1 : Int32) (hT : MO T) : WR l G yX2_plusWeeks cX2_plusWeeks 3 (some .int) 12 1 3 [.ref (b 0), .int p0, .int p1] (wM G b T) (wM G b (gX2_plusWeeks T p0 p1).2) (some (.int (gX2_plusWeeks T p0 p1).1)) := by
  refine WR.ofW (own := RX2) rfl (by decide +kernel) (Nat.le_of_ble_eq_true rfl) ?_
  intro p e s m below meth c A C hr hk hnm hE hP hD hA hAB hS ls hl
  have hx := C.1
  have hb := C.2.1
  have hown := C.2.2.2.1
  have hw := C.2.2.2.2
  have hl : lv_has ls 3 [(0, .ref (b 0)), (1, .int p0), (2, .int p1)] := hl
  refine lv_aload_n hx hb dX2_plusWeeks_0 rfl (lv_at hl 0 rfl) ?_
  refine lv_iload_n hx hb dX2_plusWeeks_1 rfl (lv_at hl 1 rfl) ?_
  refine rcSi (as := [.int p0]) (rest := [.ref (b 0)]) C (c_X2_isNone l G p0) F_X2_isNone rfl bw1216 bw1217 (hE.S hS hAB) vpn hl.1 dX2_plusWeeks_2 ⟨Nat.le_of_ble_eq_true rfl, Nat.le_of_ble_eq_true rfl⟩ rfl (Nat.le_of_ble_eq_true rfl) ⟨Nat.le_of_ble_eq_true rfl, Nat.le_of_ble_eq_true rfl⟩ ?_
  refine lv_iconst (v := (0 : Int32)) hx hb dX2_plusWeeks_5 (by decide) ?_
  refine wcVi (as := [.int (fX2_isNone p0), .int (0 : Int32)]) (rest := []) (cl := RX2) C (c_X2_refuses l G b T (fX2_isNone p0) (0 : Int32)) F_X2_refuses rfl bw1219 bw1221 bw33 (hE.S hS hAB) hP hD hS hA hAB (va_recv hE.K hP (ci := 4) (q0 := 0) rfl rfl) hl.1 dX2_plusWeeks_6 ⟨Nat.le_of_ble_eq_true rfl, Nat.le_of_ble_eq_true rfl⟩ rfl (Nat.le_of_ble_eq_true rfl) ⟨Nat.le_of_ble_eq_true rfl, Nat.le_of_ble_eq_true rfl⟩ (fun H locs hP hD hS => ?_)
  have hP : va_P (gD G) vwCl (wM G b ((fth (fX2_isNone p0) (0 : Int32)), (my T), (mm T), (md T), (mt T), (T.2.2.2.2.2))) H := hP
  have hD : va_D A (wM G b ((fth (fX2_isNone p0) (0 : Int32)), (my T), (mm T), (md T), (mt T), (T.2.2.2.2.2))) := hD
  refine lv_if_eq (tgt := 16) hx hb dX2_plusWeeks_9 (by decide) (fun c_1 => ?_) (fun c_1 => ?_)
  · have c_1 := rf_p c_1
    refine lv_aload_n hx hb dX2_plusWeeks_16 rfl (lv_at hl 0 rfl) ?_
    refine lv_iload_n hx hb dX2_plusWeeks_17 rfl (lv_at hl 1 rfl) ?_
    refine lv_ldc2 (v := (7 : Int64)) hx hb hown (hw _ bw1274) dX2_plusWeeks_18 ?_
    refine lv_iload_n hx hb dX2_plusWeeks_21 rfl (lv_at hl 2 rfl) ?_
    refine lv_i2l (v := (p1.toInt64)) hx hb dX2_plusWeeks_22 (by first | rfl | decide) ?_
    refine lv_lmul hx hb dX2_plusWeeks_23 ?_
    refine lv_ldc2 (v := (86400000000000 : Int64)) hx hb hown (hw _ bw1360) dX2_plusWeeks_24 ?_
    refine wcVi (as := [.int p0, .long ((7 : Int64) * (p1.toInt64)), .long (86400000000000 : Int64)]) (rest := []) (cl := RX2) C (c_X2_onLine l G b ((fth (fX2_isNone p0) (0 : Int32)), (my T), (mm T), (md T), (mt T), (T.2.2.2.2.2)) p0 ((7 : Int64) * (p1.toInt64)) (86400000000000 : Int64) (none_in (frf_a c_1)) (MO.same hT rfl) (by decide) (by decide)) F_X2_onLine rfl bw1381 bw1383 bw43 (hE.S hS hAB) hP hD hS hA hAB (va_recv hE.K hP (ci := 4) (q0 := 0) rfl rfl) hl.1 dX2_plusWeeks_27 ⟨Nat.le_of_ble_eq_true rfl, Nat.le_of_ble_eq_true rfl⟩ rfl (Nat.le_of_ble_eq_true rfl) ⟨Nat.le_of_ble_eq_true rfl, Nat.le_of_ble_eq_true rfl⟩ (fun H locs hP hD hS => ?_)
    exact we_i (wf := wM G b) hx hb hr hk hP hD hS (Nat.le_of_ble_eq_true rfl) (Nat.le_of_ble_eq_true rfl) dX2_plusWeeks_30 (if_pos c_1)
  · have c_1 := rf_n c_1
    refine lv_iconst (v := (0 : Int32)) hx hb dX2_plusWeeks_12 (by decide) ?_
    refine lv_goto (tgt := 30) hx hb dX2_plusWeeks_13 (by decide) ?_
    exact we_i (wf := wM G b) hx hb hr hk hP hD hS (Nat.le_of_ble_eq_true rfl) (Nat.le_of_ble_eq_true rfl) dX2_plusWeeks_30 (if_neg c_1)

set_option maxRecDepth 100000 in
set_option maxHeartbeats 4000000 in
theorem c_X2_minusWeeks (l : Launch) (G : GT) (b : Nat → Nat) (T : SM) (p0 : Int32) (p1 : Int32) (hT : MO T) : WR l G yX2_minusWeeks cX2_minusWeeks 3 (some .int) 12 1 3 [.ref (b 0), .int p0, .int p1] (wM G b T) (wM G b (gX2_minusWeeks T p0 p1).2) (some (.int (gX2_minusWeeks T p0 p1).1)) := by
  refine WR.ofW (own := RX2) rfl (by decide +kernel) (Nat.le_of_ble_eq_true rfl) ?_
  intro p e s m below meth c A C hr hk hnm hE hP hD hA hAB hS ls hl
  have hx := C.1
  have hb := C.2.1
  have hown := C.2.2.2.1
  have hw := C.2.2.2.2
  have hl : lv_has ls 3 [(0, .ref (b 0)), (1, .int p0), (2, .int p1)] := hl
  refine lv_aload_n hx hb dX2_minusWeeks_0 rfl (lv_at hl 0 rfl) ?_
  refine lv_iload_n hx hb dX2_minusWeeks_1 rfl (lv_at hl 1 rfl) ?_
  refine rcSi (as := [.int p0]) (rest := [.ref (b 0)]) C (c_X2_isNone l G p0) F_X2_isNone rfl bw1216 bw1217 (hE.S hS hAB) vpn hl.1 dX2_minusWeeks_2 ⟨Nat.le_of_ble_eq_true rfl, Nat.le_of_ble_eq_true rfl⟩ rfl (Nat.le_of_ble_eq_true rfl) ⟨Nat.le_of_ble_eq_true rfl, Nat.le_of_ble_eq_true rfl⟩ ?_
  refine lv_iconst (v := (0 : Int32)) hx hb dX2_minusWeeks_5 (by decide) ?_
  refine wcVi (as := [.int (fX2_isNone p0), .int (0 : Int32)]) (rest := []) (cl := RX2) C (c_X2_refuses l G b T (fX2_isNone p0) (0 : Int32)) F_X2_refuses rfl bw1219 bw1221 bw33 (hE.S hS hAB) hP hD hS hA hAB (va_recv hE.K hP (ci := 4) (q0 := 0) rfl rfl) hl.1 dX2_minusWeeks_6 ⟨Nat.le_of_ble_eq_true rfl, Nat.le_of_ble_eq_true rfl⟩ rfl (Nat.le_of_ble_eq_true rfl) ⟨Nat.le_of_ble_eq_true rfl, Nat.le_of_ble_eq_true rfl⟩ (fun H locs hP hD hS => ?_)
  have hP : va_P (gD G) vwCl (wM G b ((fth (fX2_isNone p0) (0 : Int32)), (my T), (mm T), (md T), (mt T), (T.2.2.2.2.2))) H := hP
  have hD : va_D A (wM G b ((fth (fX2_isNone p0) (0 : Int32)), (my T), (mm T), (md T), (mt T), (T.2.2.2.2.2))) := hD
  refine lv_if_eq (tgt := 16) hx hb dX2_minusWeeks_9 (by decide) (fun c_1 => ?_) (fun c_1 => ?_)
  · have c_1 := rf_p c_1
    refine lv_aload_n hx hb dX2_minusWeeks_16 rfl (lv_at hl 0 rfl) ?_
    refine lv_iload_n hx hb dX2_minusWeeks_17 rfl (lv_at hl 1 rfl) ?_
    refine lv_ldc2 (v := (-7 : Int64)) hx hb hown (hw _ bw1414) dX2_minusWeeks_18 ?_
    refine lv_iload_n hx hb dX2_minusWeeks_21 rfl (lv_at hl 2 rfl) ?_
    refine lv_i2l (v := (p1.toInt64)) hx hb dX2_minusWeeks_22 (by first | rfl | decide) ?_
    refine lv_lmul hx hb dX2_minusWeeks_23 ?_
    refine lv_ldc2 (v := (86400000000000 : Int64)) hx hb hown (hw _ bw1360) dX2_minusWeeks_24 ?_
    refine wcVi (as := [.int p0, .long ((-7 : Int64) * (p1.toInt64)), .long (86400000000000 : Int64)]) (rest := []) (cl := RX2) C (c_X2_onLine l G b ((fth (fX2_isNone p0) (0 : Int32)), (my T), (mm T), (md T), (mt T), (T.2.2.2.2.2)) p0 ((-7 : Int64) * (p1.toInt64)) (86400000000000 : Int64) (none_in (frf_a c_1)) (MO.same hT rfl) (by decide) (by decide)) F_X2_onLine rfl bw1381 bw1383 bw43 (hE.S hS hAB) hP hD hS hA hAB (va_recv hE.K hP (ci := 4) (q0 := 0) rfl rfl) hl.1 dX2_minusWeeks_27 ⟨Nat.le_of_ble_eq_true rfl, Nat.le_of_ble_eq_true rfl⟩ rfl (Nat.le_of_ble_eq_true rfl) ⟨Nat.le_of_ble_eq_true rfl, Nat.le_of_ble_eq_true rfl⟩ (fun H locs hP hD hS => ?_)
    exact we_i (wf := wM G b) hx hb hr hk hP hD hS (Nat.le_of_ble_eq_true rfl) (Nat.le_of_ble_eq_true rfl) dX2_minusWeeks_30 (if_pos c_1)
  · have c_1 := rf_n c_1
    refine lv_iconst (v := (0 : Int32)) hx hb dX2_minusWeeks_12 (by decide) ?_
    refine lv_goto (tgt := 30) hx hb dX2_minusWeeks_13 (by decide) ?_
    exact we_i (wf := wM G b) hx hb hr hk hP hD hS (Nat.le_of_ble_eq_true rfl) (Nat.le_of_ble_eq_true rfl) dX2_minusWeeks_30 (if_neg c_1)

set_option maxRecDepth 100000 in
set_option maxHeartbeats 4000000 in
theorem c_X2_plusDays (l : Launch) (G : GT) (b : Nat → Nat) (T : SM) (p0 : Int32) (p1 : Int32) (hT : MO T) : WR l G yX2_plusDays cX2_plusDays 3 (some .int) 12 1 3 [.ref (b 0), .int p0, .int p1] (wM G b T) (wM G b (gX2_plusDays T p0 p1).2) (some (.int (gX2_plusDays T p0 p1).1)) := by
  refine WR.ofW (own := RX2) rfl (by decide +kernel) (Nat.le_of_ble_eq_true rfl) ?_
  intro p e s m below meth c A C hr hk hnm hE hP hD hA hAB hS ls hl
  have hx := C.1
  have hb := C.2.1
  have hown := C.2.2.2.1
  have hw := C.2.2.2.2
  have hl : lv_has ls 3 [(0, .ref (b 0)), (1, .int p0), (2, .int p1)] := hl
  refine lv_aload_n hx hb dX2_plusDays_0 rfl (lv_at hl 0 rfl) ?_
  refine lv_iload_n hx hb dX2_plusDays_1 rfl (lv_at hl 1 rfl) ?_
  refine rcSi (as := [.int p0]) (rest := [.ref (b 0)]) C (c_X2_isNone l G p0) F_X2_isNone rfl bw1216 bw1217 (hE.S hS hAB) vpn hl.1 dX2_plusDays_2 ⟨Nat.le_of_ble_eq_true rfl, Nat.le_of_ble_eq_true rfl⟩ rfl (Nat.le_of_ble_eq_true rfl) ⟨Nat.le_of_ble_eq_true rfl, Nat.le_of_ble_eq_true rfl⟩ ?_
  refine lv_iconst (v := (0 : Int32)) hx hb dX2_plusDays_5 (by decide) ?_
  refine wcVi (as := [.int (fX2_isNone p0), .int (0 : Int32)]) (rest := []) (cl := RX2) C (c_X2_refuses l G b T (fX2_isNone p0) (0 : Int32)) F_X2_refuses rfl bw1219 bw1221 bw33 (hE.S hS hAB) hP hD hS hA hAB (va_recv hE.K hP (ci := 4) (q0 := 0) rfl rfl) hl.1 dX2_plusDays_6 ⟨Nat.le_of_ble_eq_true rfl, Nat.le_of_ble_eq_true rfl⟩ rfl (Nat.le_of_ble_eq_true rfl) ⟨Nat.le_of_ble_eq_true rfl, Nat.le_of_ble_eq_true rfl⟩ (fun H locs hP hD hS => ?_)
  have hP : va_P (gD G) vwCl (wM G b ((fth (fX2_isNone p0) (0 : Int32)), (my T), (mm T), (md T), (mt T), (T.2.2.2.2.2))) H := hP
  have hD : va_D A (wM G b ((fth (fX2_isNone p0) (0 : Int32)), (my T), (mm T), (md T), (mt T), (T.2.2.2.2.2))) := hD
  refine lv_if_eq (tgt := 16) hx hb dX2_plusDays_9 (by decide) (fun c_1 => ?_) (fun c_1 => ?_)
  · have c_1 := rf_p c_1
    refine lv_aload_n hx hb dX2_plusDays_16 rfl (lv_at hl 0 rfl) ?_
    refine lv_iload_n hx hb dX2_plusDays_17 rfl (lv_at hl 1 rfl) ?_
    refine lv_iload_n hx hb dX2_plusDays_18 rfl (lv_at hl 2 rfl) ?_
    refine lv_i2l (v := (p1.toInt64)) hx hb dX2_plusDays_19 (by first | rfl | decide) ?_
    refine lv_ldc2 (v := (86400000000000 : Int64)) hx hb hown (hw _ bw1360) dX2_plusDays_20 ?_
    refine wcVi (as := [.int p0, .long (p1.toInt64), .long (86400000000000 : Int64)]) (rest := []) (cl := RX2) C (c_X2_onLine l G b ((fth (fX2_isNone p0) (0 : Int32)), (my T), (mm T), (md T), (mt T), (T.2.2.2.2.2)) p0 (p1.toInt64) (86400000000000 : Int64) (none_in (frf_a c_1)) (MO.same hT rfl) (by decide) (by decide)) F_X2_onLine rfl bw1381 bw1383 bw43 (hE.S hS hAB) hP hD hS hA hAB (va_recv hE.K hP (ci := 4) (q0 := 0) rfl rfl) hl.1 dX2_plusDays_23 ⟨Nat.le_of_ble_eq_true rfl, Nat.le_of_ble_eq_true rfl⟩ rfl (Nat.le_of_ble_eq_true rfl) ⟨Nat.le_of_ble_eq_true rfl, Nat.le_of_ble_eq_true rfl⟩ (fun H locs hP hD hS => ?_)
    exact we_i (wf := wM G b) hx hb hr hk hP hD hS (Nat.le_of_ble_eq_true rfl) (Nat.le_of_ble_eq_true rfl) dX2_plusDays_26 (if_pos c_1)
  · have c_1 := rf_n c_1
    refine lv_iconst (v := (0 : Int32)) hx hb dX2_plusDays_12 (by decide) ?_
    refine lv_goto (tgt := 26) hx hb dX2_plusDays_13 (by decide) ?_
    exact we_i (wf := wM G b) hx hb hr hk hP hD hS (Nat.le_of_ble_eq_true rfl) (Nat.le_of_ble_eq_true rfl) dX2_plusDays_26 (if_neg c_1)

set_option maxRecDepth 100000 in
set_option maxHeartbeats 4000000 in
theorem c_X2_minusDays (l : Launch) (G : GT) (b : Nat → Nat) (T : SM) (p0 : Int32) (p1 : Int32) (hT : MO T) : WR l G yX2_minusDays cX2_minusDays 3 (some .int) 12 1 3 [.ref (b 0), .int p0, .int p1] (wM G b T) (wM G b (gX2_minusDays T p0 p1).2) (some (.int (gX2_minusDays T p0 p1).1)) := by
  refine WR.ofW (own := RX2) rfl (by decide +kernel) (Nat.le_of_ble_eq_true rfl) ?_
  intro p e s m below meth c A C hr hk hnm hE hP hD hA hAB hS ls hl
  have hx := C.1
  have hb := C.2.1
  have hown := C.2.2.2.1
  have hw := C.2.2.2.2
  have hl : lv_has ls 3 [(0, .ref (b 0)), (1, .int p0), (2, .int p1)] := hl
  refine lv_aload_n hx hb dX2_minusDays_0 rfl (lv_at hl 0 rfl) ?_
  refine lv_iload_n hx hb dX2_minusDays_1 rfl (lv_at hl 1 rfl) ?_
  refine rcSi (as := [.int p0]) (rest := [.ref (b 0)]) C (c_X2_isNone l G p0) F_X2_isNone rfl bw1216 bw1217 (hE.S hS hAB) vpn hl.1 dX2_minusDays_2 ⟨Nat.le_of_ble_eq_true rfl, Nat.le_of_ble_eq_true rfl⟩ rfl (Nat.le_of_ble_eq_true rfl) ⟨Nat.le_of_ble_eq_true rfl, Nat.le_of_ble_eq_true rfl⟩ ?_
  refine lv_iconst (v := (0 : Int32)) hx hb dX2_minusDays_5 (by decide) ?_
  refine wcVi (as := [.int (fX2_isNone p0), .int (0 : Int32)]) (rest := []) (cl := RX2) C (c_X2_refuses l G b T (fX2_isNone p0) (0 : Int32)) F_X2_refuses rfl bw1219 bw1221 bw33 (hE.S hS hAB) hP hD hS hA hAB (va_recv hE.K hP (ci := 4) (q0 := 0) rfl rfl) hl.1 dX2_minusDays_6 ⟨Nat.le_of_ble_eq_true rfl, Nat.le_of_ble_eq_true rfl⟩ rfl (Nat.le_of_ble_eq_true rfl) ⟨Nat.le_of_ble_eq_true rfl, Nat.le_of_ble_eq_true rfl⟩ (fun H locs hP hD hS => ?_)
  have hP : va_P (gD G) vwCl (wM G b ((fth (fX2_isNone p0) (0 : Int32)), (my T), (mm T), (md T), (mt T), (T.2.2.2.2.2))) H := hP
  have hD : va_D A (wM G b ((fth (fX2_isNone p0) (0 : Int32)), (my T), (mm T), (md T), (mt T), (T.2.2.2.2.2))) := hD
  refine lv_if_eq (tgt := 16) hx hb dX2_minusDays_9 (by decide) (fun c_1 => ?_) (fun c_1 => ?_)
  · have c_1 := rf_p c_1
    refine lv_aload_n hx hb dX2_minusDays_16 rfl (lv_at hl 0 rfl) ?_
    refine lv_iload_n hx hb dX2_minusDays_17 rfl (lv_at hl 1 rfl) ?_
    refine lv_iload_n hx hb dX2_minusDays_18 rfl (lv_at hl 2 rfl) ?_
    refine lv_i2l (v := (p1.toInt64)) hx hb dX2_minusDays_19 (by first | rfl | decide) ?_
    refine lv_lneg hx hb dX2_minusDays_20 ?_
    refine lv_ldc2 (v := (86400000000000 : Int64)) hx hb hown (hw _ bw1360) dX2_minusDays_21 ?_
    refine wcVi (as := [.int p0, .long (-(p1.toInt64)), .long (86400000000000 : Int64)]) (rest := []) (cl := RX2) C (c_X2_onLine l G b ((fth (fX2_isNone p0) (0 : Int32)), (my T), (mm T), (md T), (mt T), (T.2.2.2.2.2)) p0 (-(p1.toInt64)) (86400000000000 : Int64) (none_in (frf_a c_1)) (MO.same hT rfl) (by decide) (by decide)) F_X2_onLine rfl bw1381 bw1383 bw43 (hE.S hS hAB) hP hD hS hA hAB (va_recv hE.K hP (ci := 4) (q0 := 0) rfl rfl) hl.1 dX2_minusDays_24 ⟨Nat.le_of_ble_eq_true rfl, Nat.le_of_ble_eq_true rfl⟩ rfl (Nat.le_of_ble_eq_true rfl) ⟨Nat.le_of_ble_eq_true rfl, Nat.le_of_ble_eq_true rfl⟩ (fun H locs hP hD hS => ?_)
    exact we_i (wf := wM G b) hx hb hr hk hP hD hS (Nat.le_of_ble_eq_true rfl) (Nat.le_of_ble_eq_true rfl) dX2_minusDays_27 (if_pos c_1)
  · have c_1 := rf_n c_1
    refine lv_iconst (v := (0 : Int32)) hx hb dX2_minusDays_12 (by decide) ?_
    refine lv_goto (tgt := 27) hx hb dX2_minusDays_13 (by decide) ?_
    exact we_i (wf := wM G b) hx hb hr hk hP hD hS (Nat.le_of_ble_eq_true rfl) (Nat.le_of_ble_eq_true rfl) dX2_minusDays_27 (if_neg c_1)

set_option maxRecDepth 100000 in
set_option maxHeartbeats 4000000 in
theorem c_X2_plusHours (l : Launch) (G : GT) (b : Nat → Nat) (T : SM) (p0 : Int32) (p1 : Int32) (hT : MO T) : WR l G yX2_plusHours cX2_plusHours 3 (some .int) 12 1 3 [.ref (b 0), .int p0, .int p1] (wM G b T) (wM G b (gX2_plusHours T p0 p1).2) (some (.int (gX2_plusHours T p0 p1).1)) := by
  refine WR.ofW (own := RX2) rfl (by decide +kernel) (Nat.le_of_ble_eq_true rfl) ?_
  intro p e s m below meth c A C hr hk hnm hE hP hD hA hAB hS ls hl
  have hx := C.1
  have hb := C.2.1
  have hown := C.2.2.2.1
  have hw := C.2.2.2.2
  have hl : lv_has ls 3 [(0, .ref (b 0)), (1, .int p0), (2, .int p1)] := hl
  refine lv_aload_n hx hb dX2_plusHours_0 rfl (lv_at hl 0 rfl) ?_
  refine lv_iload_n hx hb dX2_plusHours_1 rfl (lv_at hl 1 rfl) ?_
  refine rcSi (as := [.int p0]) (rest := [.ref (b 0)]) C (c_X2_isNone l G p0) F_X2_isNone rfl bw1216 bw1217 (hE.S hS hAB) vpn hl.1 dX2_plusHours_2 ⟨Nat.le_of_ble_eq_true rfl, Nat.le_of_ble_eq_true rfl⟩ rfl (Nat.le_of_ble_eq_true rfl) ⟨Nat.le_of_ble_eq_true rfl, Nat.le_of_ble_eq_true rfl⟩ ?_
  refine lv_iconst (v := (0 : Int32)) hx hb dX2_plusHours_5 (by decide) ?_
  refine wcVi (as := [.int (fX2_isNone p0), .int (0 : Int32)]) (rest := []) (cl := RX2) C (c_X2_refuses l G b T (fX2_isNone p0) (0 : Int32)) F_X2_refuses rfl bw1219 bw1221 bw33 (hE.S hS hAB) hP hD hS hA hAB (va_recv hE.K hP (ci := 4) (q0 := 0) rfl rfl) hl.1 dX2_plusHours_6 ⟨Nat.le_of_ble_eq_true rfl, Nat.le_of_ble_eq_true rfl⟩ rfl (Nat.le_of_ble_eq_true rfl) ⟨Nat.le_of_ble_eq_true rfl, Nat.le_of_ble_eq_true rfl⟩ (fun H locs hP hD hS => ?_)
  have hP : va_P (gD G) vwCl (wM G b ((fth (fX2_isNone p0) (0 : Int32)), (my T), (mm T), (md T), (mt T), (T.2.2.2.2.2))) H := hP
  have hD : va_D A (wM G b ((fth (fX2_isNone p0) (0 : Int32)), (my T), (mm T), (md T), (mt T), (T.2.2.2.2.2))) := hD
  refine lv_if_eq (tgt := 16) hx hb dX2_plusHours_9 (by decide) (fun c_1 => ?_) (fun c_1 => ?_)
  · have c_1 := rf_p c_1
    refine lv_aload_n hx hb dX2_plusHours_16 rfl (lv_at hl 0 rfl) ?_
    refine lv_iload_n hx hb dX2_plusHours_17 rfl (lv_at hl 1 rfl) ?_
    refine lv_iload_n hx hb dX2_plusHours_18 rfl (lv_at hl 2 rfl) ?_
    refine lv_i2l (v := (p1.toInt64)) hx hb dX2_plusHours_19 (by first | rfl | decide) ?_
    refine lv_iconst (v := (5 : Int32)) hx hb dX2_plusHours_20 (by decide) ?_
    refine rcSl (as := [.int (5 : Int32)]) (rest := [.long (p1.toInt64), .int p0, .ref (b 0)]) C (c_X2_nanosOf l G (5 : Int32)) F_X2_nanosOf rfl bw1354 bw1355 (hE.S hS hAB) vpn hl.1 dX2_plusHours_21 ⟨Nat.le_of_ble_eq_true rfl, Nat.le_of_ble_eq_true rfl⟩ rfl (Nat.le_of_ble_eq_true rfl) ⟨Nat.le_of_ble_eq_true rfl, Nat.le_of_ble_eq_true rfl⟩ ?_
    refine wcVi (as := [.int p0, .long (p1.toInt64), .long (fX2_nanosOf (5 : Int32))]) (rest := []) (cl := RX2) C (c_X2_onLine l G b ((fth (fX2_isNone p0) (0 : Int32)), (my T), (mm T), (md T), (mt T), (T.2.2.2.2.2)) p0 (p1.toInt64) (fX2_nanosOf (5 : Int32)) (none_in (frf_a c_1)) (MO.same hT rfl) (nz_nanosOf (5 : Int32)) (by decide)) F_X2_onLine rfl bw1381 bw1383 bw43 (hE.S hS hAB) hP hD hS hA hAB (va_recv hE.K hP (ci := 4) (q0 := 0) rfl rfl) hl.1 dX2_plusHours_24 ⟨Nat.le_of_ble_eq_true rfl, Nat.le_of_ble_eq_true rfl⟩ rfl (Nat.le_of_ble_eq_true rfl) ⟨Nat.le_of_ble_eq_true rfl, Nat.le_of_ble_eq_true rfl⟩ (fun H locs hP hD hS => ?_)
    exact we_i (wf := wM G b) hx hb hr hk hP hD hS (Nat.le_of_ble_eq_true rfl) (Nat.le_of_ble_eq_true rfl) dX2_plusHours_27 (if_pos c_1)
  · have c_1 := rf_n c_1
    refine lv_iconst (v := (0 : Int32)) hx hb dX2_plusHours_12 (by decide) ?_
    refine lv_goto (tgt := 27) hx hb dX2_plusHours_13 (by decide) ?_
    exact we_i (wf := wM G b) hx hb hr hk hP hD hS (Nat.le_of_ble_eq_true rfl) (Nat.le_of_ble_eq_true rfl) dX2_plusHours_27 (if_neg c_1)

