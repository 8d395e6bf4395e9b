set_option maxRecDepth 100000 in
set_option maxHeartbeats 4000000 in
theorem c_X2_plusNanos (l : Launch) (G : GT) (b : Nat → Nat) (T : SM) (p0 : Int32) (p1 : Int32) (p2 : Int32) (hT : MO T) : WR l G yX2_plusNanos cX2_plusNanos 4 (some .int) 12 1 3 [.ref (b 0), .int p0, .int p1, .int p2] (wM G b T) (wM G b (gX2_plusNanos T p0 p1 p2).2) (some (.int (gX2_plusNanos T p0 p1 p2).1)) := by
  refine WR.ofW (own := RX2) rfl (by decide +kernel) (Nat.le_of_ble_eq_true rfl) ?_
  intro p e s m below meth c A C hr hk hnm hE hP hD hA hAB hS ls hl
  have hx := C.1
  have hb := C.2.1
  have hown := C.2.2.2.1
  have hw := C.2.2.2.2
  have hl : lv_has ls 4 [(0, .ref (b 0)), (1, .int p0), (2, .int p1), (3, .int p2)] := hl
  refine lv_aload_n hx hb dX2_plusNanos_0 rfl (lv_at hl 0 rfl) ?_
  refine lv_iload_n hx hb dX2_plusNanos_1 rfl (lv_at hl 1 rfl) ?_
  refine rcSi (as := [.int p0]) (rest := [.ref (b 0)]) C (c_X2_isNone l G p0) F_X2_isNone rfl bw1216 bw1217 (hE.S hS hAB) vpn hl.1 dX2_plusNanos_2 ⟨Nat.le_of_ble_eq_true rfl, Nat.le_of_ble_eq_true rfl⟩ rfl (Nat.le_of_ble_eq_true rfl) ⟨Nat.le_of_ble_eq_true rfl, Nat.le_of_ble_eq_true rfl⟩ ?_
  refine lv_iconst (v := (0 : Int32)) hx hb dX2_plusNanos_5 (by decide) ?_
  refine wcVi (as := [.int (fX2_isNone p0), .int (0 : Int32)]) (rest := []) (cl := RX2) C (c_X2_refuses l G b T (fX2_isNone p0) (0 : Int32)) F_X2_refuses rfl bw1219 bw1221 bw33 (hE.S hS hAB) hP hD hS hA hAB (va_recv hE.K hP (ci := 4) (q0 := 0) rfl rfl) hl.1 dX2_plusNanos_6 ⟨Nat.le_of_ble_eq_true rfl, Nat.le_of_ble_eq_true rfl⟩ rfl (Nat.le_of_ble_eq_true rfl) ⟨Nat.le_of_ble_eq_true rfl, Nat.le_of_ble_eq_true rfl⟩ (fun H locs hP hD hS => ?_)
  have hP : va_P (gD G) vwCl (wM G b ((fth (fX2_isNone p0) (0 : Int32)), (my T), (mm T), (md T), (mt T), (T.2.2.2.2.2))) H := hP
  have hD : va_D A (wM G b ((fth (fX2_isNone p0) (0 : Int32)), (my T), (mm T), (md T), (mt T), (T.2.2.2.2.2))) := hD
  refine lv_if_eq (tgt := 16) hx hb dX2_plusNanos_9 (by decide) (fun c_1 => ?_) (fun c_1 => ?_)
  · have c_1 := rf_p c_1
    refine lv_aload_n hx hb dX2_plusNanos_16 rfl (lv_at hl 0 rfl) ?_
    refine lv_iload_n hx hb dX2_plusNanos_17 rfl (lv_at hl 1 rfl) ?_
    refine lv_iload_n hx hb dX2_plusNanos_18 rfl (lv_at hl 2 rfl) ?_
    refine lv_i2l (v := (p1.toInt64)) hx hb dX2_plusNanos_19 (by first | rfl | decide) ?_
    refine lv_ldc2 (v := (1000000000 : Int64)) hx hb hown (hw _ bw1238) dX2_plusNanos_20 ?_
    refine lv_lmul hx hb dX2_plusNanos_23 ?_
    refine lv_iload_n hx hb dX2_plusNanos_24 rfl (lv_at hl 3 rfl) ?_
    refine lv_i2l (v := (p2.toInt64)) hx hb dX2_plusNanos_25 (by first | rfl | decide) ?_
    refine lv_ladd hx hb dX2_plusNanos_26 ?_
    refine lv_lconst (v := (1 : Int64)) hx hb dX2_plusNanos_27 (by decide) ?_
    refine wcVi (as := [.int p0, .long (((p1.toInt64) * (1000000000 : Int64)) + (p2.toInt64)), .long (1 : Int64)]) (rest := []) (cl := RX2) C (c_X2_onLine l G b ((fth (fX2_isNone p0) (0 : Int32)), (my T), (mm T), (md T), (mt T), (T.2.2.2.2.2)) p0 (((p1.toInt64) * (1000000000 : Int64)) + (p2.toInt64)) (1 : Int64) (none_in (frf_a c_1)) (MO.same hT rfl) (by decide) (by decide)) F_X2_onLine rfl bw1381 bw1383 bw43 (hE.S hS hAB) hP hD hS hA hAB (va_recv hE.K hP (ci := 4) (q0 := 0) rfl rfl) hl.1 dX2_plusNanos_28 ⟨Nat.le_of_ble_eq_true rfl, Nat.le_of_ble_eq_true rfl⟩ rfl (Nat.le_of_ble_eq_true rfl) ⟨Nat.le_of_ble_eq_true rfl, Nat.le_of_ble_eq_true rfl⟩ (fun H locs hP hD hS => ?_)
    exact we_i (wf := wM G b) hx hb hr hk hP hD hS (Nat.le_of_ble_eq_true rfl) (Nat.le_of_ble_eq_true rfl) dX2_plusNanos_31 (if_pos c_1)
  · have c_1 := rf_n c_1
    refine lv_iconst (v := (0 : Int32)) hx hb dX2_plusNanos_12 (by decide) ?_
    refine lv_goto (tgt := 31) hx hb dX2_plusNanos_13 (by decide) ?_
    exact we_i (wf := wM G b) hx hb hr hk hP hD hS (Nat.le_of_ble_eq_true rfl) (Nat.le_of_ble_eq_true rfl) dX2_plusNanos_31 (if_neg c_1)

set_option maxRecDepth 100000 in
set_option maxHeartbeats 4000000 in
theorem c_X2_minusNanos (l : Launch) (G : GT) (b : Nat → Nat) (T : SM) (p0 : Int32) (p1 : Int32) (p2 : Int32) (hT : MO T) : WR l G yX2_minusNanos cX2_minusNanos 4 (some .int) 12 1 3 [.ref (b 0), .int p0, .int p1, .int p2] (wM G b T) (wM G b (gX2_minusNanos T p0 p1 p2).2) (some (.int (gX2_minusNanos T p0 p1 p2).1)) := by
  refine WR.ofW (own := RX2) rfl (by decide +kernel) (Nat.le_of_ble_eq_true rfl) ?_
  intro p e s m below meth c A C hr hk hnm hE hP hD hA hAB hS ls hl
  have hx := C.1
  have hb := C.2.1
  have hown := C.2.2.2.1
  have hw := C.2.2.2.2
  have hl : lv_has ls 4 [(0, .ref (b 0)), (1, .int p0), (2, .int p1), (3, .int p2)] := hl
  refine lv_aload_n hx hb dX2_minusNanos_0 rfl (lv_at hl 0 rfl) ?_
  refine lv_iload_n hx hb dX2_minusNanos_1 rfl (lv_at hl 1 rfl) ?_
  refine rcSi (as := [.int p0]) (rest := [.ref (b 0)]) C (c_X2_isNone l G p0) F_X2_isNone rfl bw1216 bw1217 (hE.S hS hAB) vpn hl.1 dX2_minusNanos_2 ⟨Nat.le_of_ble_eq_true rfl, Nat.le_of_ble_eq_true rfl⟩ rfl (Nat.le_of_ble_eq_true rfl) ⟨Nat.le_of_ble_eq_true rfl, Nat.le_of_ble_eq_true rfl⟩ ?_
  refine lv_iconst (v := (0 : Int32)) hx hb dX2_minusNanos_5 (by decide) ?_
  refine wcVi (as := [.int (fX2_isNone p0), .int (0 : Int32)]) (rest := []) (cl := RX2) C (c_X2_refuses l G b T (fX2_isNone p0) (0 : Int32)) F_X2_refuses rfl bw1219 bw1221 bw33 (hE.S hS hAB) hP hD hS hA hAB (va_recv hE.K hP (ci := 4) (q0 := 0) rfl rfl) hl.1 dX2_minusNanos_6 ⟨Nat.le_of_ble_eq_true rfl, Nat.le_of_ble_eq_true rfl⟩ rfl (Nat.le_of_ble_eq_true rfl) ⟨Nat.le_of_ble_eq_true rfl, Nat.le_of_ble_eq_true rfl⟩ (fun H locs hP hD hS => ?_)
  have hP : va_P (gD G) vwCl (wM G b ((fth (fX2_isNone p0) (0 : Int32)), (my T), (mm T), (md T), (mt T), (T.2.2.2.2.2))) H := hP
  have hD : va_D A (wM G b ((fth (fX2_isNone p0) (0 : Int32)), (my T), (mm T), (md T), (mt T), (T.2.2.2.2.2))) := hD
  refine lv_if_eq (tgt := 16) hx hb dX2_minusNanos_9 (by decide) (fun c_1 => ?_) (fun c_1 => ?_)
  · have c_1 := rf_p c_1
    refine lv_aload_n hx hb dX2_minusNanos_16 rfl (lv_at hl 0 rfl) ?_
    refine lv_iload_n hx hb dX2_minusNanos_17 rfl (lv_at hl 1 rfl) ?_
    refine lv_iload_n hx hb dX2_minusNanos_18 rfl (lv_at hl 2 rfl) ?_
    refine lv_i2l (v := (p1.toInt64)) hx hb dX2_minusNanos_19 (by first | rfl | decide) ?_
    refine lv_ldc2 (v := (1000000000 : Int64)) hx hb hown (hw _ bw1238) dX2_minusNanos_20 ?_
    refine lv_lmul hx hb dX2_minusNanos_23 ?_
    refine lv_iload_n hx hb dX2_minusNanos_24 rfl (lv_at hl 3 rfl) ?_
    refine lv_i2l (v := (p2.toInt64)) hx hb dX2_minusNanos_25 (by first | rfl | decide) ?_
    refine lv_ladd hx hb dX2_minusNanos_26 ?_
    refine lv_lneg hx hb dX2_minusNanos_27 ?_
    refine lv_lconst (v := (1 : Int64)) hx hb dX2_minusNanos_28 (by decide) ?_
    refine wcVi (as := [.int p0, .long (-(((p1.toInt64) * (1000000000 : Int64)) + (p2.toInt64))), .long (1 : Int64)]) (rest := []) (cl := RX2) C (c_X2_onLine l G b ((fth (fX2_isNone p0) (0 : Int32)), (my T), (mm T), (md T), (mt T), (T.2.2.2.2.2)) p0 (-(((p1.toInt64) * (1000000000 : Int64)) + (p2.toInt64))) (1 : Int64) (none_in (frf_a c_1)) (MO.same hT rfl) (by decide) (by decide)) F_X2_onLine rfl bw1381 bw1383 bw43 (hE.S hS hAB) hP hD hS hA hAB (va_recv hE.K hP (ci := 4) (q0 := 0) rfl rfl) hl.1 dX2_minusNanos_29 ⟨Nat.le_of_ble_eq_true rfl, Nat.le_of_ble_eq_true rfl⟩ rfl (Nat.le_of_ble_eq_true rfl) ⟨Nat.le_of_ble_eq_true rfl, Nat.le_of_ble_eq_true rfl⟩ (fun H locs hP hD hS => ?_)
    exact we_i (wf := wM G b) hx hb hr hk hP hD hS (Nat.le_of_ble_eq_true rfl) (Nat.le_of_ble_eq_true rfl) dX2_minusNanos_32 (if_pos c_1)
  · have c_1 := rf_n c_1
    refine lv_iconst (v := (0 : Int32)) hx hb dX2_minusNanos_12 (by decide) ?_
    refine lv_goto (tgt := 32) hx hb dX2_minusNanos_13 (by decide) ?_
    exact we_i (wf := wM G b) hx hb hr hk hP hD hS (Nat.le_of_ble_eq_true rfl) (Nat.le_of_ble_eq_true rfl) dX2_minusNanos_32 (if_neg c_1)

set_option maxRecDepth 100000 in
set_option maxHeartbeats 4000000 in
theorem c_X2_plusUnits (l : Launch) (G : GT) (b : Nat → Nat) (T : SM) (p0 : Int32) (p1 : Int32) (p2 : Int32) (hT : MO T) : WR l G yX2_plusUnits cX2_plusUnits 4 (some .int) 12 1 3 [.ref (b 0), .int p0, .int p1, .int p2] (wM G b T) (wM G b (gX2_plusUnits T p0 p1 p2).2) (some (.int (gX2_plusUnits T p0 p1 p2).1)) := by
  refine WR.ofW (own := RX2) rfl (by decide +kernel) (Nat.le_of_ble_eq_true rfl) ?_
  intro p e s m below meth c A C hr hk hnm hE hP hD hA hAB hS ls hl
  have hx := C.1
  have hb := C.2.1
  have hown := C.2.2.2.1
  have hw := C.2.2.2.2
  have hl : lv_has ls 4 [(0, .ref (b 0)), (1, .int p0), (2, .int p1), (3, .int p2)] := hl
  refine lv_aload_n hx hb dX2_plusUnits_0 rfl (lv_at hl 0 rfl) ?_
  refine lv_iload_n hx hb dX2_plusUnits_1 rfl (lv_at hl 1 rfl) ?_
  refine rcSi (as := [.int p0]) (rest := [.ref (b 0)]) C (c_X2_isNone l G p0) F_X2_isNone rfl bw1216 bw1217 (hE.S hS hAB) vpn hl.1 dX2_plusUnits_2 ⟨Nat.le_of_ble_eq_true rfl, Nat.le_of_ble_eq_true rfl⟩ rfl (Nat.le_of_ble_eq_true rfl) ⟨Nat.le_of_ble_eq_true rfl, Nat.le_of_ble_eq_true rfl⟩ ?_
  refine lv_ldc (v := (-100000 : Int32)) hx hb hown (hw _ bw1443) dX2_plusUnits_5 ?_
  refine lv_ldc (v := (100000 : Int32)) hx hb hown (hw _ bw1444) dX2_plusUnits_7 ?_
  refine lv_iload_n hx hb dX2_plusUnits_9 rfl (lv_at hl 2 rfl) ?_
  refine rcSi (as := [.int (-100000 : Int32), .int (100000 : Int32), .int p1]) (rest := [.int (fX2_isNone p0), .ref (b 0)]) C (c_X2_isFrom l G (-100000 : Int32) (100000 : Int32) p1) F_X2_isFrom rfl bw1208 bw1209 (hE.S hS hAB) vpn hl.1 dX2_plusUnits_10 ⟨Nat.le_of_ble_eq_true rfl, Nat.le_of_ble_eq_true rfl⟩ rfl (Nat.le_of_ble_eq_true rfl) ⟨Nat.le_of_ble_eq_true rfl, Nat.le_of_ble_eq_true rfl⟩ ?_
  refine lv_if_eq (tgt := 26) hx hb dX2_plusUnits_13 (by decide) (fun c_1 => ?_) (fun c_1 => ?_)
  · refine lv_iconst (v := (1 : Int32)) hx hb dX2_plusUnits_26 (by decide) ?_
    refine lv_goto (tgt := 31) hx hb dX2_plusUnits_27 (by decide) ?_
    refine wcVi (as := [.int (fX2_isNone p0), .int (1 : Int32)]) (rest := []) (cl := RX2) C (c_X2_refuses l G b T (fX2_isNone p0) (1 : Int32)) F_X2_refuses rfl bw1219 bw1221 bw33 (hE.S hS hAB) hP hD hS hA hAB (va_recv hE.K hP (ci := 4) (q0 := 0) rfl rfl) hl.1 dX2_plusUnits_31 ⟨Nat.le_of_ble_eq_true rfl, Nat.le_of_ble_eq_true rfl⟩ rfl (Nat.le_of_ble_eq_true rfl) ⟨Nat.le_of_ble_eq_true rfl, Nat.le_of_ble_eq_true rfl⟩ (fun H locs hP hD hS => ?_)
    have hP : va_P (gD G) vwCl (wM G b ((fth (fX2_isNone p0) (1 : Int32)), (my T), (mm T), (md T), (mt T), (T.2.2.2.2.2))) H := hP
    have hD : va_D A (wM G b ((fth (fX2_isNone p0) (1 : Int32)), (my T), (mm T), (md T), (mt T), (T.2.2.2.2.2))) := hD
    refine lv_if_eq (tgt := 39) hx hb dX2_plusUnits_34 (by decide) (fun c_x => absurd c_x (frf_1 (fX2_isNone p0))) (fun _ => ?_)
    refine lv_iconst (v := (0 : Int32)) hx hb dX2_plusUnits_37 (by decide) ?_
    exact we_i (wf := wM G b) hx hb hr hk hP hD hS (Nat.le_of_ble_eq_true rfl) (Nat.le_of_ble_eq_true rfl) dX2_plusUnits_38 (if_pos c_1)
  · refine lv_iconst (v := (0 : Int32)) hx hb dX2_plusUnits_16 (by decide) ?_
    refine lv_bipush (v := (13 : Int32)) hx hb dX2_plusUnits_17 (by decide) ?_
    refine lv_iload_n hx hb dX2_plusUnits_19 rfl (lv_at hl 3 rfl) ?_
    refine rcSi (as := [.int (0 : Int32), .int (13 : Int32), .int p2]) (rest := [.int (fX2_isNone p0), .ref (b 0)]) C (c_X2_isFrom l G (0 : Int32) (13 : Int32) p2) F_X2_isFrom rfl bw1208 bw1209 (hE.S hS hAB) vpn hl.1 dX2_plusUnits_20 ⟨Nat.le_of_ble_eq_true rfl, Nat.le_of_ble_eq_true rfl⟩ rfl (Nat.le_of_ble_eq_true rfl) ⟨Nat.le_of_ble_eq_true rfl, Nat.le_of_ble_eq_true rfl⟩ ?_
    refine k_dia (b := (fX2_isFrom (0 : Int32) (13 : Int32) p2) = 0) (x := (1 : Int32)) (y := (0 : Int32)) (Wg := fun z9 => W _ _ _ _ _ _ _ _ _ _ _ _ _ _ _ (F0 m 31 ls (.int z9 :: _))) ?_ (fun t9 f9 => lv_if_ne (tgt := 30) hx hb dX2_plusUnits_23 (by decide) (fun c_x => lv_iconst (v := (0 : Int32)) hx hb dX2_plusUnits_30 (by decide) (f9 c_x)) (fun c_x => lv_iconst (v := (1 : Int32)) hx hb dX2_plusUnits_26 (by decide) (lv_goto (tgt := 31) hx hb dX2_plusUnits_27 (by decide) (t9 c_x))))
    refine wcVi (as := [.int (fX2_isNone p0), .int (if (fX2_isFrom (0 : Int32) (13 : Int32) p2) = 0 then (1 : Int32) else (0 : Int32))]) (rest := []) (cl := RX2) C (c_X2_refuses l G b T (fX2_isNone p0) (if (fX2_isFrom (0 : Int32) (13 : Int32) p2) = 0 then (1 : Int32) else (0 : Int32))) F_X2_refuses rfl bw1219 bw1221 bw33 (hE.S hS hAB) hP hD hS hA hAB (va_recv hE.K hP (ci := 4) (q0 := 0) rfl rfl) hl.1 dX2_plusUnits_31 ⟨Nat.le_of_ble_eq_true rfl, Nat.le_of_ble_eq_true rfl⟩ rfl (Nat.le_of_ble_eq_true rfl) ⟨Nat.le_of_ble_eq_true rfl, Nat.le_of_ble_eq_true rfl⟩ (fun H locs hP hD hS => ?_)
    have hP : va_P (gD G) vwCl (wM G b ((fth (fX2_isNone p0) (if (fX2_isFrom (0 : Int32) (13 : Int32) p2) = 0 then (1 : Int32) else (0 : Int32))), (my T), (mm T), (md T), (mt T), (T.2.2.2.2.2))) H := hP
    have hD : va_D A (wM G b ((fth (fX2_isNone p0) (if (fX2_isFrom (0 : Int32) (13 : Int32) p2) = 0 then (1 : Int32) else (0 : Int32))), (my T), (mm T), (md T), (mt T), (T.2.2.2.2.2))) := hD
    refine lv_if_eq (tgt := 39) hx hb dX2_plusUnits_34 (by decide) (fun c_2 => ?_) (fun c_2 => ?_)
    · have c_2 := rf_p c_2
      refine lv_iload_n hx hb dX2_plusUnits_39 rfl (lv_at hl 3 rfl) ?_
      refine lv_bipush (v := (8 : Int32)) hx hb dX2_plusUnits_40 (by decide) ?_
      refine lv_icmp_le (tgt := 59) hx hb dX2_plusUnits_42 (by decide) (fun c_3 => ?_) (fun c_3 => ?_)
      · refine lv_iload_n hx hb dX2_plusUnits_59 rfl (lv_at hl 3 rfl) ?_
        refine lv_bipush (v := (8 : Int32)) hx hb dX2_plusUnits_60 (by decide) ?_
        refine lv_icmp_ne (tgt := 82) hx hb dX2_plusUnits_62 (by decide) (fun c_4 => ?_) (fun c_4 => ?_)
        · refine lv_aload_n hx hb dX2_plusUnits_82 rfl (lv_at hl 0 rfl) ?_
          refine lv_iload_n hx hb dX2_plusUnits_83 rfl (lv_at hl 1 rfl) ?_
          refine lv_iload_n hx hb dX2_plusUnits_84 rfl (lv_at hl 2 rfl) ?_
          refine lv_i2l (v := (p1.toInt64)) hx hb dX2_plusUnits_85 (by first | rfl | decide) ?_
          refine lv_iload_n hx hb dX2_plusUnits_86 rfl (lv_at hl 3 rfl) ?_
          refine rcSl (as := [.int p2]) (rest := [.long (p1.toInt64), .int p0, .ref (b 0)]) C (c_X2_nanosOf l G p2) F_X2_nanosOf rfl bw1354 bw1355 (hE.S hS hAB) vpn hl.1 dX2_plusUnits_87 ⟨Nat.le_of_ble_eq_true rfl, Nat.le_of_ble_eq_true rfl⟩ rfl (Nat.le_of_ble_eq_true rfl) ⟨Nat.le_of_ble_eq_true rfl, Nat.le_of_ble_eq_true rfl⟩ ?_
          refine wcVi (as := [.int p0, .long (p1.toInt64), .long (fX2_nanosOf p2)]) (rest := []) (cl := RX2) C (c_X2_onLine l G b ((fth (fX2_isNone p0) (if (fX2_isFrom (0 : Int32) (13 : Int32) p2) = 0 then (1 : Int32) else (0 : Int32))), (my T), (mm T), (md T), (mt T), (T.2.2.2.2.2)) p0 (p1.toInt64) (fX2_nanosOf p2) (none_in (frf_a c_2)) (MO.same hT rfl) (nz_nanosOf p2) (inday_nz (dia1 (frf_b c_2)) c_3 c_4)) F_X2_onLine rfl bw1381 bw1383 bw43 (hE.S hS hAB) hP hD hS hA hAB (va_recv hE.K hP (ci := 4) (q0 := 0) rfl rfl) hl.1 dX2_plusUnits_90 ⟨Nat.le_of_ble_eq_true rfl, Nat.le_of_ble_eq_true rfl⟩ rfl (Nat.le_of_ble_eq_true rfl) ⟨Nat.le_of_ble_eq_true rfl, Nat.le_of_ble_eq_true rfl⟩ (fun H locs hP hD hS => ?_)
          exact we_i (wf := wM G b) hx hb hr hk hP hD hS (Nat.le_of_ble_eq_true rfl) (Nat.le_of_ble_eq_true rfl) dX2_plusUnits_93 (Eq.trans (if_neg c_1) (Eq.trans (if_pos c_2) (Eq.trans (if_pos c_3) (if_neg c_4))))
        · refine lv_aload_n hx hb dX2_plusUnits_65 rfl (lv_at hl 0 rfl) ?_
          refine lv_iload_n hx hb dX2_plusUnits_66 rfl (lv_at hl 1 rfl) ?_
          refine lv_ldc2 (v := (7 : Int64)) hx hb hown (hw _ bw1274) dX2_plusUnits_67 ?_
          refine lv_iload_n hx hb dX2_plusUnits_70 rfl (lv_at hl 2 rfl) ?_
          refine lv_i2l (v := (p1.toInt64)) hx hb dX2_plusUnits_71 (by first | rfl | decide) ?_
          refine lv_lmul hx hb dX2_plusUnits_72 ?_
          refine lv_ldc2 (v := (86400000000000 : Int64)) hx hb hown (hw _ bw1360) dX2_plusUnits_73 ?_
          refine wcVi (as := [.int p0, .long ((7 : Int64) * (p1.toInt64)), .long (86400000000000 : Int64)]) (rest := []) (cl := RX2) C (c_X2_onLine l G b ((fth (fX2_isNone p0) (if (fX2_isFrom (0 : Int32) (13 : Int32) p2) = 0 then (1 : Int32) else (0 : Int32))), (my T), (mm T), (md T), (mt T), (T.2.2.2.2.2)) p0 ((7 : Int64) * (p1.toInt64)) (86400000000000 : Int64) (none_in (frf_a c_2)) (MO.same hT rfl) (by decide) (by decide)) F_X2_onLine rfl bw1381 bw1383 bw43 (hE.S hS hAB) hP hD hS hA hAB (va_recv hE.K hP (ci := 4) (q0 := 0) rfl rfl) hl.1 dX2_plusUnits_76 ⟨Nat.le_of_ble_eq_true rfl, Nat.le_of_ble_eq_true rfl⟩ rfl (Nat.le_of_ble_eq_true rfl) ⟨Nat.le_of_ble_eq_true rfl, Nat.le_of_ble_eq_true rfl⟩ (fun H locs hP hD hS => ?_)
          refine lv_goto (tgt := 93) hx hb dX2_plusUnits_79 (by decide) ?_
          exact we_i (wf := wM G b) hx hb hr hk hP hD hS (Nat.le_of_ble_eq_true rfl) (Nat.le_of_ble_eq_true rfl) dX2_plusUnits_93 (Eq.trans (if_neg c_1) (Eq.trans (if_pos c_2) (Eq.trans (if_pos c_3) (if_pos c_4))))
      · refine lv_aload_n hx hb dX2_plusUnits_45 rfl (lv_at hl 0 rfl) ?_
        refine lv_iload_n hx hb dX2_plusUnits_46 rfl (lv_at hl 1 rfl) ?_
        refine lv_iload_n hx hb dX2_plusUnits_47 rfl (lv_at hl 2 rfl) ?_
        refine lv_i2l (v := (p1.toInt64)) hx hb dX2_plusUnits_48 (by first | rfl | decide) ?_
        refine lv_iload_n hx hb dX2_plusUnits_49 rfl (lv_at hl 3 rfl) ?_
        refine rcSi (as := [.int p2]) (rest := [.long (p1.toInt64), .int p0, .ref (b 0)]) C (c_X2_monthsOf l G p2) F_X2_monthsOf rfl bw1445 bw1446 (hE.S hS hAB) vpn hl.1 dX2_plusUnits_50 ⟨Nat.le_of_ble_eq_true rfl, Nat.le_of_ble_eq_true rfl⟩ rfl (Nat.le_of_ble_eq_true rfl) ⟨Nat.le_of_ble_eq_true rfl, Nat.le_of_ble_eq_true rfl⟩ ?_
        refine lv_i2l (v := ((fX2_monthsOf p2).toInt64)) hx hb dX2_plusUnits_53 (by first | rfl | decide) ?_
        refine lv_lmul hx hb dX2_plusUnits_54 ?_
        refine wcVi (as := [.int p0, .long ((p1.toInt64) * ((fX2_monthsOf p2).toInt64))]) (rest := []) (cl := RX2) C (c_X2_onMonths l G b ((fth (fX2_isNone p0) (if (fX2_isFrom (0 : Int32) (13 : Int32) p2) = 0 then (1 : Int32) else (0 : Int32))), (my T), (mm T), (md T), (mt T), (T.2.2.2.2.2)) p0 ((p1.toInt64) * ((fX2_monthsOf p2).toInt64)) (none_in (frf_a c_2)) (MO.same hT rfl)) F_X2_onMonths rfl bw1369 bw1371 bw42 (hE.S hS hAB) hP hD hS hA hAB (va_recv hE.K hP (ci := 4) (q0 := 0) rfl rfl) hl.1 dX2_plusUnits_55 ⟨Nat.le_of_ble_eq_true rfl, Nat.le_of_ble_eq_true rfl⟩ rfl (Nat.le_of_ble_eq_true rfl) ⟨Nat.le_of_ble_eq_true rfl, Nat.le_of_ble_eq_true rfl⟩ (fun H locs hP hD hS => ?_)
        exact we_i (wf := wM G b) hx hb hr hk hP hD hS (Nat.le_of_ble_eq_true rfl) (Nat.le_of_ble_eq_true rfl) dX2_plusUnits_58 (Eq.trans (if_neg c_1) (Eq.trans (if_pos c_2) (if_neg c_3)))
    · have c_2 := rf_n c_2
      refine lv_iconst (v := (0 : Int32)) hx hb dX2_plusUnits_37 (by decide) ?_
      exact we_i (wf := wM G b) hx hb hr hk hP hD hS (Nat.le_of_ble_eq_true rfl) (Nat.le_of_ble_eq_true rfl) dX2_plusUnits_38 (Eq.trans (if_neg c_1) (if_neg c_2))

