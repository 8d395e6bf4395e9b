set_option maxRecDepth 100000 in
set_option maxHeartbeats 4000000 in
theorem c_X2_plusYears (l : Launch) (G : GT) (b : Nat → Nat) (T : SM) (p0 : Int32) (p1 : Int32) (hT : MO T) : WR l G yX2_plusYears cX2_plusYears 3 (some .int) 12 0 0 [.ref (b 0), .int p0, .int p1] (wM G b T) (wM G b (gX2_plusYears T p0 p1).2) (some (.int (gX2_plusYears T p0 p1).1)) := by
  refine WR.ofW (own := RX2) rfl (by decide +kernel) (Nat.le_of_ble_eq_true rfl) ?_
  intro p e s m below meth c A C hr hk hnm hE hP hD hA hAB hS ls hl
  have hx := C.1
  have hb := C.2.1
  have hown := C.2.2.2.1
  have hw := C.2.2.2.2
  have hl : lv_has ls 3 [(0, .ref (b 0)), (1, .int p0), (2, .int p1)] := hl
  refine lv_aload_n hx hb dX2_plusYears_0 rfl (lv_at hl 0 rfl) ?_
  refine lv_iload_n hx hb dX2_plusYears_1 rfl (lv_at hl 1 rfl) ?_
  refine rcSi (as := [.int p0]) (rest := [.ref (b 0)]) C (c_X2_isNone l G p0) F_X2_isNone rfl bw1216 bw1217 (hE.S hS hAB) vpn hl.1 dX2_plusYears_2 ⟨Nat.le_of_ble_eq_true rfl, Nat.le_of_ble_eq_true rfl⟩ rfl (Nat.le_of_ble_eq_true rfl) ⟨Nat.le_of_ble_eq_true rfl, Nat.le_of_ble_eq_true rfl⟩ ?_
  refine lv_ldc (v := (-100000000 : Int32)) hx hb hown (hw _ bw1366) dX2_plusYears_5 ?_
  refine lv_ldc (v := (100000000 : Int32)) hx hb hown (hw _ bw1367) dX2_plusYears_7 ?_
  refine lv_iload_n hx hb dX2_plusYears_9 rfl (lv_at hl 2 rfl) ?_
  refine rcSi (as := [.int (-100000000 : Int32), .int (100000000 : Int32), .int p1]) (rest := [.int (fX2_isNone p0), .ref (b 0)]) C (c_X2_isFrom l G (-100000000 : Int32) (100000000 : Int32) p1) F_X2_isFrom rfl bw1208 bw1209 (hE.S hS hAB) vpn hl.1 dX2_plusYears_10 ⟨Nat.le_of_ble_eq_true rfl, Nat.le_of_ble_eq_true rfl⟩ rfl (Nat.le_of_ble_eq_true rfl) ⟨Nat.le_of_ble_eq_true rfl, Nat.le_of_ble_eq_true rfl⟩ ?_
  refine k_dia (b := (fX2_isFrom (-100000000 : Int32) (100000000 : Int32) p1) = 0) (x := (1 : Int32)) (y := (0 : Int32)) (Wg := fun z9 => W _ _ _ _ _ _ _ _ _ _ _ _ _ _ _ (F0 m 21 ls (.int z9 :: _))) ?_ (fun t9 f9 => lv_if_ne (tgt := 20) hx hb dX2_plusYears_13 (by decide) (fun c_x => lv_iconst (v := (0 : Int32)) hx hb dX2_plusYears_20 (by decide) (f9 c_x)) (fun c_x => lv_iconst (v := (1 : Int32)) hx hb dX2_plusYears_16 (by decide) (lv_goto (tgt := 21) hx hb dX2_plusYears_17 (by decide) (t9 c_x))))
  refine wcVi (as := [.int (fX2_isNone p0), .int (if (fX2_isFrom (-100000000 : Int32) (100000000 : Int32) p1) = 0 then (1 : Int32) else (0 : Int32))]) (rest := []) (cl := RX2) C (c_X2_refuses l G b T (fX2_isNone p0) (if (fX2_isFrom (-100000000 : Int32) (100000000 : Int32) p1) = 0 then (1 : Int32) else (0 : Int32))) F_X2_refuses rfl bw1219 bw1221 bw33 (hE.S hS hAB) hP hD hS hA hAB (va_recv hE.K hP (ci := 4) (q0 := 0) rfl rfl) hl.1 dX2_plusYears_21 ⟨Nat.le_of_ble_eq_true rfl, Nat.le_of_ble_eq_true rfl⟩ rfl (Nat.le_of_ble_eq_true rfl) ⟨Nat.le_of_ble_eq_true rfl, Nat.le_of_ble_eq_true rfl⟩ (fun H locs hP hD hS => ?_)
  have hP : va_P (gD G) vwCl (wM G b ((fth (fX2_isNone p0) (if (fX2_isFrom (-100000000 : Int32) (100000000 : Int32) p1) = 0 then (1 : Int32) else (0 : Int32))), (my T), (mm T), (md T), (mt T), (T.2.2.2.2.2))) H := hP
  have hD : va_D A (wM G b ((fth (fX2_isNone p0) (if (fX2_isFrom (-100000000 : Int32) (100000000 : Int32) p1) = 0 then (1 : Int32) else (0 : Int32))), (my T), (mm T), (md T), (mt T), (T.2.2.2.2.2))) := hD
  refine lv_if_eq (tgt := 31) hx hb dX2_plusYears_24 (by decide) (fun c_1 => ?_) (fun c_1 => ?_)
  · have c_1 := rf_p c_1
    refine lv_aload_n hx hb dX2_plusYears_31 rfl (lv_at hl 0 rfl) ?_
    refine lv_iload_n hx hb dX2_plusYears_32 rfl (lv_at hl 1 rfl) ?_
    refine lv_ldc2 (v := (12 : Int64)) hx hb hown (hw _ bw1368) dX2_plusYears_33 ?_
    refine lv_iload_n hx hb dX2_plusYears_36 rfl (lv_at hl 2 rfl) ?_
    refine lv_i2l (v := (p1.toInt64)) hx hb dX2_plusYears_37 (by first | rfl | decide) ?_
    refine lv_lmul hx hb dX2_plusYears_38 ?_
    refine wcVi (as := [.int p0, .long ((12 : Int64) * (p1.toInt64))]) (rest := []) (cl := RX2) C (c_X2_onMonths l G b ((fth (fX2_isNone p0) (if (fX2_isFrom (-100000000 : Int32) (100000000 : Int32) p1) = 0 then (1 : Int32) else (0 : Int32))), (my T), (mm T), (md T), (mt T), (T.2.2.2.2.2)) p0 ((12 : Int64) * (p1.toInt64)) (none_in (frf_a c_1)) (MO.same hT rfl)) F_X2_onMonths rfl bw1369 bw1371 bw42 (hE.S hS hAB) hP hD hS hA hAB (va_recv hE.K hP (ci := 4) (q0 := 0) rfl rfl) hl.1 dX2_plusYears_39 ⟨Nat.le_of_ble_eq_true rfl, Nat.le_of_ble_eq_true rfl⟩ rfl (Nat.le_of_ble_eq_true rfl) ⟨Nat.le_of_ble_eq_true rfl, Nat.le_of_ble_eq_true rfl⟩ (fun H locs hP hD hS => ?_)
    exact we_i (wf := wM G b) hx hb hr hk hP hD hS (Nat.le_of_ble_eq_true rfl) (Nat.le_of_ble_eq_true rfl) dX2_plusYears_42 (if_pos c_1)
  · have c_1 := rf_n c_1
    refine lv_iconst (v := (0 : Int32)) hx hb dX2_plusYears_27 (by decide) ?_
    refine lv_goto (tgt := 42) hx hb dX2_plusYears_28 (by decide) ?_
    exact we_i (wf := wM G b) hx hb hr hk hP hD hS (Nat.le_of_ble_eq_true rfl) (Nat.le_of_ble_eq_true rfl) dX2_plusYears_42 (if_neg c_1)

set_option maxRecDepth 100000 in
set_option maxHeartbeats 4000000 in
theorem c_X2_minusYears (l : Launch) (G : GT) (b : Nat → Nat) (T : SM) (p0 : Int32) (p1 : Int32) (hT : MO T) : WR l G yX2_minusYears cX2_minusYears 3 (some .int) 12 0 0 [.ref (b 0), .int p0, .int p1] (wM G b T) (wM G b (gX2_minusYears T p0 p1).2) (some (.int (gX2_minusYears T p0 p1).1)) := by
  refine WR.ofW (own := RX2) rfl (by decide +kernel) (Nat.le_of_ble_eq_true rfl) ?_
  intro p e s m below meth c A C hr hk hnm hE hP hD hA hAB hS ls hl
  have hx := C.1
  have hb := C.2.1
  have hown := C.2.2.2.1
  have hw := C.2.2.2.2
  have hl : lv_has ls 3 [(0, .ref (b 0)), (1, .int p0), (2, .int p1)] := hl
  refine lv_aload_n hx hb dX2_minusYears_0 rfl (lv_at hl 0 rfl) ?_
  refine lv_iload_n hx hb dX2_minusYears_1 rfl (lv_at hl 1 rfl) ?_
  refine rcSi (as := [.int p0]) (rest := [.ref (b 0)]) C (c_X2_isNone l G p0) F_X2_isNone rfl bw1216 bw1217 (hE.S hS hAB) vpn hl.1 dX2_minusYears_2 ⟨Nat.le_of_ble_eq_true rfl, Nat.le_of_ble_eq_true rfl⟩ rfl (Nat.le_of_ble_eq_true rfl) ⟨Nat.le_of_ble_eq_true rfl, Nat.le_of_ble_eq_true rfl⟩ ?_
  refine lv_ldc (v := (-100000000 : Int32)) hx hb hown (hw _ bw1366) dX2_minusYears_5 ?_
  refine lv_ldc (v := (100000000 : Int32)) hx hb hown (hw _ bw1367) dX2_minusYears_7 ?_
  refine lv_iload_n hx hb dX2_minusYears_9 rfl (lv_at hl 2 rfl) ?_
  refine rcSi (as := [.int (-100000000 : Int32), .int (100000000 : Int32), .int p1]) (rest := [.int (fX2_isNone p0), .ref (b 0)]) C (c_X2_isFrom l G (-100000000 : Int32) (100000000 : Int32) p1) F_X2_isFrom rfl bw1208 bw1209 (hE.S hS hAB) vpn hl.1 dX2_minusYears_10 ⟨Nat.le_of_ble_eq_true rfl, Nat.le_of_ble_eq_true rfl⟩ rfl (Nat.le_of_ble_eq_true rfl) ⟨Nat.le_of_ble_eq_true rfl, Nat.le_of_ble_eq_true rfl⟩ ?_
  refine k_dia (b := (fX2_isFrom (-100000000 : Int32) (100000000 : Int32) p1) = 0) (x := (1 : Int32)) (y := (0 : Int32)) (Wg := fun z9 => W _ _ _ _ _ _ _ _ _ _ _ _ _ _ _ (F0 m 21 ls (.int z9 :: _))) ?_ (fun t9 f9 => lv_if_ne (tgt := 20) hx hb dX2_minusYears_13 (by decide) (fun c_x => lv_iconst (v := (0 : Int32)) hx hb dX2_minusYears_20 (by decide) (f9 c_x)) (fun c_x => lv_iconst (v := (1 : Int32)) hx hb dX2_minusYears_16 (by decide) (lv_goto (tgt := 21) hx hb dX2_minusYears_17 (by decide) (t9 c_x))))
  refine wcVi (as := [.int (fX2_isNone p0), .int (if (fX2_isFrom (-100000000 : Int32) (100000000 : Int32) p1) = 0 then (1 : Int32) else (0 : Int32))]) (rest := []) (cl := RX2) C (c_X2_refuses l G b T (fX2_isNone p0) (if (fX2_isFrom (-100000000 : Int32) (100000000 : Int32) p1) = 0 then (1 : Int32) else (0 : Int32))) F_X2_refuses rfl bw1219 bw1221 bw33 (hE.S hS hAB) hP hD hS hA hAB (va_recv hE.K hP (ci := 4) (q0 := 0) rfl rfl) hl.1 dX2_minusYears_21 ⟨Nat.le_of_ble_eq_true rfl, Nat.le_of_ble_eq_true rfl⟩ rfl (Nat.le_of_ble_eq_true rfl) ⟨Nat.le_of_ble_eq_true rfl, Nat.le_of_ble_eq_true rfl⟩ (fun H locs hP hD hS => ?_)
  have hP : va_P (gD G) vwCl (wM G b ((fth (fX2_isNone p0) (if (fX2_isFrom (-100000000 : Int32) (100000000 : Int32) p1) = 0 then (1 : Int32) else (0 : Int32))), (my T), (mm T), (md T), (mt T), (T.2.2.2.2.2))) H := hP
  have hD : va_D A (wM G b ((fth (fX2_isNone p0) (if (fX2_isFrom (-100000000 : Int32) (100000000 : Int32) p1) = 0 then (1 : Int32) else (0 : Int32))), (my T), (mm T), (md T), (mt T), (T.2.2.2.2.2))) := hD
  refine lv_if_eq (tgt := 31) hx hb dX2_minusYears_24 (by decide) (fun c_1 => ?_) (fun c_1 => ?_)
  · have c_1 := rf_p c_1
    refine lv_aload_n hx hb dX2_minusYears_31 rfl (lv_at hl 0 rfl) ?_
    refine lv_iload_n hx hb dX2_minusYears_32 rfl (lv_at hl 1 rfl) ?_
    refine lv_ldc2 (v := (-12 : Int64)) hx hb hown (hw _ bw1405) dX2_minusYears_33 ?_
    refine lv_iload_n hx hb dX2_minusYears_36 rfl (lv_at hl 2 rfl) ?_
    refine lv_i2l (v := (p1.toInt64)) hx hb dX2_minusYears_37 (by first | rfl | decide) ?_
    refine lv_lmul hx hb dX2_minusYears_38 ?_
    refine wcVi (as := [.int p0, .long ((-12 : Int64) * (p1.toInt64))]) (rest := []) (cl := RX2) C (c_X2_onMonths l G b ((fth (fX2_isNone p0) (if (fX2_isFrom (-100000000 : Int32) (100000000 : Int32) p1) = 0 then (1 : Int32) else (0 : Int32))), (my T), (mm T), (md T), (mt T), (T.2.2.2.2.2)) p0 ((-12 : Int64) * (p1.toInt64)) (none_in (frf_a c_1)) (MO.same hT rfl)) F_X2_onMonths rfl bw1369 bw1371 bw42 (hE.S hS hAB) hP hD hS hA hAB (va_recv hE.K hP (ci := 4) (q0 := 0) rfl rfl) hl.1 dX2_minusYears_39 ⟨Nat.le_of_ble_eq_true rfl, Nat.le_of_ble_eq_true rfl⟩ rfl (Nat.le_of_ble_eq_true rfl) ⟨Nat.le_of_ble_eq_true rfl, Nat.le_of_ble_eq_true rfl⟩ (fun H locs hP hD hS => ?_)
    exact we_i (wf := wM G b) hx hb hr hk hP hD hS (Nat.le_of_ble_eq_true rfl) (Nat.le_of_ble_eq_true rfl) dX2_minusYears_42 (if_pos c_1)
  · have c_1 := rf_n c_1
    refine lv_iconst (v := (0 : Int32)) hx hb dX2_minusYears_27 (by decide) ?_
    refine lv_goto (tgt := 42) hx hb dX2_minusYears_28 (by decide) ?_
    exact we_i (wf := wM G b) hx hb hr hk hP hD hS (Nat.le_of_ble_eq_true rfl) (Nat.le_of_ble_eq_true rfl) dX2_minusYears_42 (if_neg c_1)

set_option maxRecDepth 100000 in
set_option maxHeartbeats 4000000 in
theorem c_X2_plusMonths (l : Launch) (G : GT) (b : Nat → Nat) (T : SM) (p0 : Int32) (p1 : Int32) (hT : MO T) : WR l G yX2_plusMonths cX2_plusMonths 3 (some .int) 12 0 0 [.ref (b 0), .int p0, .int p1] (wM G b T) (wM G b (gX2_plusMonths T p0 p1).2) (some (.int (gX2_plusMonths T p0 p1).1)) := by
  refine WR.ofW (own := RX2) rfl (by decide +kernel) (Nat.le_of_ble_eq_true rfl) ?_
  intro p e s m below meth c A C hr hk hnm hE hP hD hA hAB hS ls hl
  have hx := C.1
  have hb := C.2.1
  have hown := C.2.2.2.1
  have hw := C.2.2.2.2
  have hl : lv_has ls 3 [(0, .ref (b 0)), (1, .int p0), (2, .int p1)] := hl
  refine lv_aload_n hx hb dX2_plusMonths_0 rfl (lv_at hl 0 rfl) ?_
  refine lv_iload_n hx hb dX2_plusMonths_1 rfl (lv_at hl 1 rfl) ?_
  refine rcSi (as := [.int p0]) (rest := [.ref (b 0)]) C (c_X2_isNone l G p0) F_X2_isNone rfl bw1216 bw1217 (hE.S hS hAB) vpn hl.1 dX2_plusMonths_2 ⟨Nat.le_of_ble_eq_true rfl, Nat.le_of_ble_eq_true rfl⟩ rfl (Nat.le_of_ble_eq_true rfl) ⟨Nat.le_of_ble_eq_true rfl, Nat.le_of_ble_eq_true rfl⟩ ?_
  refine lv_iconst (v := (0 : Int32)) hx hb dX2_plusMonths_5 (by decide) ?_
  refine wcVi (as := [.int (fX2_isNone p0), .int (0 : Int32)]) (rest := []) (cl := RX2) C (c_X2_refuses l G b T (fX2_isNone p0) (0 : Int32)) F_X2_refuses rfl bw1219 bw1221 bw33 (hE.S hS hAB) hP hD hS hA hAB (va_recv hE.K hP (ci := 4) (q0 := 0) rfl rfl) hl.1 dX2_plusMonths_6 ⟨Nat.le_of_ble_eq_true rfl, Nat.le_of_ble_eq_true rfl⟩ rfl (Nat.le_of_ble_eq_true rfl) ⟨Nat.le_of_ble_eq_true rfl, Nat.le_of_ble_eq_true rfl⟩ (fun H locs hP hD hS => ?_)
  have hP : va_P (gD G) vwCl (wM G b ((fth (fX2_isNone p0) (0 : Int32)), (my T), (mm T), (md T), (mt T), (T.2.2.2.2.2))) H := hP
  have hD : va_D A (wM G b ((fth (fX2_isNone p0) (0 : Int32)), (my T), (mm T), (md T), (mt T), (T.2.2.2.2.2))) := hD
  refine lv_if_eq (tgt := 16) hx hb dX2_plusMonths_9 (by decide) (fun c_1 => ?_) (fun c_1 => ?_)
  · have c_1 := rf_p c_1
    refine lv_aload_n hx hb dX2_plusMonths_16 rfl (lv_at hl 0 rfl) ?_
    refine lv_iload_n hx hb dX2_plusMonths_17 rfl (lv_at hl 1 rfl) ?_
    refine lv_iload_n hx hb dX2_plusMonths_18 rfl (lv_at hl 2 rfl) ?_
    refine lv_i2l (v := (p1.toInt64)) hx hb dX2_plusMonths_19 (by first | rfl | decide) ?_
    refine wcVi (as := [.int p0, .long (p1.toInt64)]) (rest := []) (cl := RX2) C (c_X2_onMonths l G b ((fth (fX2_isNone p0) (0 : Int32)), (my T), (mm T), (md T), (mt T), (T.2.2.2.2.2)) p0 (p1.toInt64) (none_in (frf_a c_1)) (MO.same hT rfl)) F_X2_onMonths rfl bw1369 bw1371 bw42 (hE.S hS hAB) hP hD hS hA hAB (va_recv hE.K hP (ci := 4) (q0 := 0) rfl rfl) hl.1 dX2_plusMonths_20 ⟨Nat.le_of_ble_eq_true rfl, Nat.le_of_ble_eq_true rfl⟩ rfl (Nat.le_of_ble_eq_true rfl) ⟨Nat.le_of_ble_eq_true rfl, Nat.le_of_ble_eq_true rfl⟩ (fun H locs hP hD hS => ?_)
    exact we_i (wf := wM G b) hx hb hr hk hP hD hS (Nat.le_of_ble_eq_true rfl) (Nat.le_of_ble_eq_true rfl) dX2_plusMonths_23 (if_pos c_1)
  · have c_1 := rf_n c_1
    refine lv_iconst (v := (0 : Int32)) hx hb dX2_plusMonths_12 (by decide) ?_
    refine lv_goto (tgt := 23) hx hb dX2_plusMonths_13 (by decide) ?_
    exact we_i (wf := wM G b) hx hb hr hk hP hD hS (Nat.le_of_ble_eq_true rfl) (Nat.le_of_ble_eq_true rfl) dX2_plusMonths_23 (if_neg c_1)

set_option maxRecDepth 100000 in
set_option maxHeartbeats 4000000 in
theorem c_X2_minusMonths (l : Launch) (G : GT) (b : Nat → Nat) (T : SM) (p0 : Int32) (p1 : Int32) (hT : MO T) : WR l G yX2_minusMonths cX2_minusMonths 3 (some .int) 12 0 0 [.ref (b 0), .int p0, .int p1] (wM G b T) (wM G b (gX2_minusMonths T p0 p1).2) (some (.int (gX2_minusMonths T p0 p1).1)) := by
  refine WR.ofW (own := RX2) rfl (by decide +kernel) (Nat.le_of_ble_eq_true rfl) ?_
  intro p e s m below meth c A C hr hk hnm hE hP hD hA hAB hS ls hl
  have hx := C.1
  have hb := C.2.1
  have hown := C.2.2.2.1
  have hw := C.2.2.2.2
  have hl : lv_has ls 3 [(0, .ref (b 0)), (1, .int p0), (2, .int p1)] := hl
  refine lv_aload_n hx hb dX2_minusMonths_0 rfl (lv_at hl 0 rfl) ?_
  refine lv_iload_n hx hb dX2_minusMonths_1 rfl (lv_at hl 1 rfl) ?_
  refine rcSi (as := [.int p0]) (rest := [.ref (b 0)]) C (c_X2_isNone l G p0) F_X2_isNone rfl bw1216 bw1217 (hE.S hS hAB) vpn hl.1 dX2_minusMonths_2 ⟨Nat.le_of_ble_eq_true rfl, Nat.le_of_ble_eq_true rfl⟩ rfl (Nat.le_of_ble_eq_true rfl) ⟨Nat.le_of_ble_eq_true rfl, Nat.le_of_ble_eq_true rfl⟩ ?_
  refine lv_iconst (v := (0 : Int32)) hx hb dX2_minusMonths_5 (by decide) ?_
  refine wcVi (as := [.int (fX2_isNone p0), .int (0 : Int32)]) (rest := []) (cl := RX2) C (c_X2_refuses l G b T (fX2_isNone p0) (0 : Int32)) F_X2_refuses rfl bw1219 bw1221 bw33 (hE.S hS hAB) hP hD hS hA hAB (va_recv hE.K hP (ci := 4) (q0 := 0) rfl rfl) hl.1 dX2_minusMonths_6 ⟨Nat.le_of_ble_eq_true rfl, Nat.le_of_ble_eq_true rfl⟩ rfl (Nat.le_of_ble_eq_true rfl) ⟨Nat.le_of_ble_eq_true rfl, Nat.le_of_ble_eq_true rfl⟩ (fun H locs hP hD hS => ?_)
  have hP : va_P (gD G) vwCl (wM G b ((fth (fX2_isNone p0) (0 : Int32)), (my T), (mm T), (md T), (mt T), (T.2.2.2.2.2))) H := hP
  have hD : va_D A (wM G b ((fth (fX2_isNone p0) (0 : Int32)), (my T), (mm T), (md T), (mt T), (T.2.2.2.2.2))) := hD
  refine lv_if_eq (tgt := 16) hx hb dX2_minusMonths_9 (by decide) (fun c_1 => ?_) (fun c_1 => ?_)
  · have c_1 := rf_p c_1
    refine lv_aload_n hx hb dX2_minusMonths_16 rfl (lv_at hl 0 rfl) ?_
    refine lv_iload_n hx hb dX2_minusMonths_17 rfl (lv_at hl 1 rfl) ?_
    refine lv_iload_n hx hb dX2_minusMonths_18 rfl (lv_at hl 2 rfl) ?_
    refine lv_i2l (v := (p1.toInt64)) hx hb dX2_minusMonths_19 (by first | rfl | decide) ?_
    refine lv_lneg hx hb dX2_minusMonths_20 ?_
    refine wcVi (as := [.int p0, .long (-(p1.toInt64))]) (rest := []) (cl := RX2) C (c_X2_onMonths l G b ((fth (fX2_isNone p0) (0 : Int32)), (my T), (mm T), (md T), (mt T), (T.2.2.2.2.2)) p0 (-(p1.toInt64)) (none_in (frf_a c_1)) (MO.same hT rfl)) F_X2_onMonths rfl bw1369 bw1371 bw42 (hE.S hS hAB) hP hD hS hA hAB (va_recv hE.K hP (ci := 4) (q0 := 0) rfl rfl) hl.1 dX2_minusMonths_21 ⟨Nat.le_of_ble_eq_true rfl, Nat.le_of_ble_eq_true rfl⟩ rfl (Nat.le_of_ble_eq_true rfl) ⟨Nat.le_of_ble_eq_true rfl, Nat.le_of_ble_eq_true rfl⟩ (fun H locs hP hD hS => ?_)
    exact we_i (wf := wM G b) hx hb hr hk hP hD hS (Nat.le_of_ble_eq_true rfl) (Nat.le_of_ble_eq_true rfl) dX2_minusMonths_24 (if_pos c_1)
  · have c_1 := rf_n c_1
    refine lv_iconst (v := (0 : Int32)) hx hb dX2_minusMonths_12 (by decide) ?_
    refine lv_goto (tgt := 24) hx hb dX2_minusMonths_13 (by decide) ?_
    exact we_i (wf := wM G b) hx hb hr hk hP hD hS (Nat.le_of_ble_eq_true rfl) (Nat.le_of_ble_eq_true rfl) dX2_minusMonths_24 (if_neg c_1)

