set_option maxRecDepth 100000 in
set_option maxHeartbeats 4000000 in
theorem c_X2_withSecond (l : Launch) (G : GT) (b : Nat → Nat) (T : SM) (p0 : Int32) (p1 : Int32) (hT : MO T) : WR l G yX2_withSecond cX2_withSecond 3 (some .int) 12 0 0 [.ref (b 0), .int p0, .int p1] (wM G b T) (wM G b (gX2_withSecond T p0 p1).2) (some (.int (gX2_withSecond T p0 p1).1)) := by
  refine WR.ofW (own := RX2) rfl (by decide +kernel) (Nat.le_of_ble_eq_true rfl) ?_
  intro p e s m below meth c A C hr hk hnm hE hP hD hA hAB hS ls hl
  have hx := C.1
  have hb := C.2.1
  have hown := C.2.2.2.1
  have hw := C.2.2.2.2
  have hl : lv_has ls 3 [(0, .ref (b 0)), (1, .int p0), (2, .int p1)] := hl
  refine lv_aload_n hx hb dX2_withSecond_0 rfl (lv_at hl 0 rfl) ?_
  refine lv_iload_n hx hb dX2_withSecond_1 rfl (lv_at hl 1 rfl) ?_
  refine rcSi (as := [.int p0]) (rest := [.ref (b 0)]) C (c_X2_isNone l G p0) F_X2_isNone rfl bw1216 bw1217 (hE.S hS hAB) vpn hl.1 dX2_withSecond_2 ⟨Nat.le_of_ble_eq_true rfl, Nat.le_of_ble_eq_true rfl⟩ rfl (Nat.le_of_ble_eq_true rfl) ⟨Nat.le_of_ble_eq_true rfl, Nat.le_of_ble_eq_true rfl⟩ ?_
  refine lv_iconst (v := (0 : Int32)) hx hb dX2_withSecond_5 (by decide) ?_
  refine lv_bipush (v := (59 : Int32)) hx hb dX2_withSecond_6 (by decide) ?_
  refine lv_iload_n hx hb dX2_withSecond_8 rfl (lv_at hl 2 rfl) ?_
  refine rcSi (as := [.int (0 : Int32), .int (59 : Int32), .int p1]) (rest := [.int (fX2_isNone p0), .ref (b 0)]) C (c_X2_isFrom l G (0 : Int32) (59 : Int32) p1) F_X2_isFrom rfl bw1208 bw1209 (hE.S hS hAB) vpn hl.1 dX2_withSecond_9 ⟨Nat.le_of_ble_eq_true rfl, Nat.le_of_ble_eq_true rfl⟩ rfl (Nat.le_of_ble_eq_true rfl) ⟨Nat.le_of_ble_eq_true rfl, Nat.le_of_ble_eq_true rfl⟩ ?_
  refine k_dia (b := (fX2_isFrom (0 : Int32) (59 : Int32) p1) = 0) (x := (1 : Int32)) (y := (0 : Int32)) (Wg := fun z9 => W _ _ _ _ _ _ _ _ _ _ _ _ _ _ _ (F0 m 20 ls (.int z9 :: _))) ?_ (fun t9 f9 => lv_if_ne (tgt := 19) hx hb dX2_withSecond_12 (by decide) (fun c_x => lv_iconst (v := (0 : Int32)) hx hb dX2_withSecond_19 (by decide) (f9 c_x)) (fun c_x => lv_iconst (v := (1 : Int32)) hx hb dX2_withSecond_15 (by decide) (lv_goto (tgt := 20) hx hb dX2_withSecond_16 (by decide) (t9 c_x))))
  refine wcVi (as := [.int (fX2_isNone p0), .int (if (fX2_isFrom (0 : Int32) (59 : Int32) p1) = 0 then (1 : Int32) else (0 : Int32))]) (rest := []) (cl := RX2) C (c_X2_refuses l G b T (fX2_isNone p0) (if (fX2_isFrom (0 : Int32) (59 : Int32) p1) = 0 then (1 : Int32) else (0 : Int32))) F_X2_refuses rfl bw1219 bw1221 bw33 (hE.S hS hAB) hP hD hS hA hAB (va_recv hE.K hP (ci := 4) (q0 := 0) rfl rfl) hl.1 dX2_withSecond_20 ⟨Nat.le_of_ble_eq_true rfl, Nat.le_of_ble_eq_true rfl⟩ rfl (Nat.le_of_ble_eq_true rfl) ⟨Nat.le_of_ble_eq_true rfl, Nat.le_of_ble_eq_true rfl⟩ (fun H locs hP hD hS => ?_)
  have hP : va_P (gD G) vwCl (wM G b ((fth (fX2_isNone p0) (if (fX2_isFrom (0 : Int32) (59 : Int32) p1) = 0 then (1 : Int32) else (0 : Int32))), (my T), (mm T), (md T), (mt T), (T.2.2.2.2.2))) H := hP
  have hD : va_D A (wM G b ((fth (fX2_isNone p0) (if (fX2_isFrom (0 : Int32) (59 : Int32) p1) = 0 then (1 : Int32) else (0 : Int32))), (my T), (mm T), (md T), (mt T), (T.2.2.2.2.2))) := hD
  refine lv_if_eq (tgt := 30) hx hb dX2_withSecond_23 (by decide) (fun c_1 => ?_) (fun c_1 => ?_)
  · have c_1 := rf_p c_1
    refine lv_aload_n hx hb dX2_withSecond_30 rfl (lv_at hl 0 rfl) ?_
    refine lv_iload_n hx hb dX2_withSecond_31 rfl (lv_at hl 1 rfl) ?_
    refine lv_ldc2 (v := (1000000000 : Int64)) hx hb hown (hw _ bw1238) dX2_withSecond_32 ?_
    refine lv_ldc2 (v := (60 : Int64)) hx hb hown (hw _ bw1237) dX2_withSecond_35 ?_
    refine lv_iload_n hx hb dX2_withSecond_38 rfl (lv_at hl 2 rfl) ?_
    refine lv_i2l (v := (p1.toInt64)) hx hb dX2_withSecond_39 (by first | rfl | decide) ?_
    refine wcVi (as := [.int p0, .long (1000000000 : Int64), .long (60 : Int64), .long (p1.toInt64)]) (rest := []) (cl := RX2) C (c_X2_withPart l G b ((fth (fX2_isNone p0) (if (fX2_isFrom (0 : Int32) (59 : Int32) p1) = 0 then (1 : Int32) else (0 : Int32))), (my T), (mm T), (md T), (mt T), (T.2.2.2.2.2)) p0 (1000000000 : Int64) (60 : Int64) (p1.toInt64) (none_in (frf_a c_1)) (MO.same hT rfl) (by decide) (by decide)) F_X2_withPart rfl bw1333 bw1335 bw41 (hE.S hS hAB) hP hD hS hA hAB (va_recv hE.K hP (ci := 4) (q0 := 0) rfl rfl) hl.1 dX2_withSecond_40 ⟨Nat.le_of_ble_eq_true rfl, Nat.le_of_ble_eq_true rfl⟩ rfl (Nat.le_of_ble_eq_true rfl) ⟨Nat.le_of_ble_eq_true rfl, Nat.le_of_ble_eq_true rfl⟩ (fun H locs hP hD hS => ?_)
    exact we_i (wf := wM G b) hx hb hr hk hP hD hS (Nat.le_of_ble_eq_true rfl) (Nat.le_of_ble_eq_true rfl) dX2_withSecond_43 (if_pos c_1)
  · have c_1 := rf_n c_1
    refine lv_iconst (v := (0 : Int32)) hx hb dX2_withSecond_26 (by decide) ?_
    refine lv_goto (tgt := 43) hx hb dX2_withSecond_27 (by decide) ?_
    exact we_i (wf := wM G b) hx hb hr hk hP hD hS (Nat.le_of_ble_eq_true rfl) (Nat.le_of_ble_eq_true rfl) dX2_withSecond_43 (if_neg c_1)

set_option maxRecDepth 100000 in
set_option maxHeartbeats 4000000 in
theorem c_X2_withNano (l : Launch) (G : GT) (b : Nat → Nat) (T : SM) (p0 : Int32) (p1 : Int32) (hT : MO T) : WR l G yX2_withNano cX2_withNano 3 (some .int) 12 0 0 [.ref (b 0), .int p0, .int p1] (wM G b T) (wM G b (gX2_withNano T p0 p1).2) (some (.int (gX2_withNano T p0 p1).1)) := by
  refine WR.ofW (own := RX2) rfl (by decide +kernel) (Nat.le_of_ble_eq_true rfl) ?_
  intro p e s m below meth c A C hr hk hnm hE hP hD hA hAB hS ls hl
  have hx := C.1
  have hb := C.2.1
  have hown := C.2.2.2.1
  have hw := C.2.2.2.2
  have hl : lv_has ls 3 [(0, .ref (b 0)), (1, .int p0), (2, .int p1)] := hl
  refine lv_aload_n hx hb dX2_withNano_0 rfl (lv_at hl 0 rfl) ?_
  refine lv_iload_n hx hb dX2_withNano_1 rfl (lv_at hl 1 rfl) ?_
  refine rcSi (as := [.int p0]) (rest := [.ref (b 0)]) C (c_X2_isNone l G p0) F_X2_isNone rfl bw1216 bw1217 (hE.S hS hAB) vpn hl.1 dX2_withNano_2 ⟨Nat.le_of_ble_eq_true rfl, Nat.le_of_ble_eq_true rfl⟩ rfl (Nat.le_of_ble_eq_true rfl) ⟨Nat.le_of_ble_eq_true rfl, Nat.le_of_ble_eq_true rfl⟩ ?_
  refine lv_iconst (v := (0 : Int32)) hx hb dX2_withNano_5 (by decide) ?_
  refine lv_ldc (v := (999999999 : Int32)) hx hb hown (hw _ bw1211) dX2_withNano_6 ?_
  refine lv_iload_n hx hb dX2_withNano_8 rfl (lv_at hl 2 rfl) ?_
  refine rcSi (as := [.int (0 : Int32), .int (999999999 : Int32), .int p1]) (rest := [.int (fX2_isNone p0), .ref (b 0)]) C (c_X2_isFrom l G (0 : Int32) (999999999 : Int32) p1) F_X2_isFrom rfl bw1208 bw1209 (hE.S hS hAB) vpn hl.1 dX2_withNano_9 ⟨Nat.le_of_ble_eq_true rfl, Nat.le_of_ble_eq_true rfl⟩ rfl (Nat.le_of_ble_eq_true rfl) ⟨Nat.le_of_ble_eq_true rfl, Nat.le_of_ble_eq_true rfl⟩ ?_
  refine k_dia (b := (fX2_isFrom (0 : Int32) (999999999 : Int32) p1) = 0) (x := (1 : Int32)) (y := (0 : Int32)) (Wg := fun z9 => W _ _ _ _ _ _ _ _ _ _ _ _ _ _ _ (F0 m 20 ls (.int z9 :: _))) ?_ (fun t9 f9 => lv_if_ne (tgt := 19) hx hb dX2_withNano_12 (by decide) (fun c_x => lv_iconst (v := (0 : Int32)) hx hb dX2_withNano_19 (by decide) (f9 c_x)) (fun c_x => lv_iconst (v := (1 : Int32)) hx hb dX2_withNano_15 (by decide) (lv_goto (tgt := 20) hx hb dX2_withNano_16 (by decide) (t9 c_x))))
  refine wcVi (as := [.int (fX2_isNone p0), .int (if (fX2_isFrom (0 : Int32) (999999999 : Int32) p1) = 0 then (1 : Int32) else (0 : Int32))]) (rest := []) (cl := RX2) C (c_X2_refuses l G b T (fX2_isNone p0) (if (fX2_isFrom (0 : Int32) (999999999 : Int32) p1) = 0 then (1 : Int32) else (0 : Int32))) F_X2_refuses rfl bw1219 bw1221 bw33 (hE.S hS hAB) hP hD hS hA hAB (va_recv hE.K hP (ci := 4) (q0 := 0) rfl rfl) hl.1 dX2_withNano_20 ⟨Nat.le_of_ble_eq_true rfl, Nat.le_of_ble_eq_true rfl⟩ rfl (Nat.le_of_ble_eq_true rfl) ⟨Nat.le_of_ble_eq_true rfl, Nat.le_of_ble_eq_true rfl⟩ (fun H locs hP hD hS => ?_)
  have hP : va_P (gD G) vwCl (wM G b ((fth (fX2_isNone p0) (if (fX2_isFrom (0 : Int32) (999999999 : Int32) p1) = 0 then (1 : Int32) else (0 : Int32))), (my T), (mm T), (md T), (mt T), (T.2.2.2.2.2))) H := hP
  have hD : va_D A (wM G b ((fth (fX2_isNone p0) (if (fX2_isFrom (0 : Int32) (999999999 : Int32) p1) = 0 then (1 : Int32) else (0 : Int32))), (my T), (mm T), (md T), (mt T), (T.2.2.2.2.2))) := hD
  refine lv_if_eq (tgt := 30) hx hb dX2_withNano_23 (by decide) (fun c_1 => ?_) (fun c_1 => ?_)
  · have c_1 := rf_p c_1
    refine lv_aload_n hx hb dX2_withNano_30 rfl (lv_at hl 0 rfl) ?_
    refine lv_iload_n hx hb dX2_withNano_31 rfl (lv_at hl 1 rfl) ?_
    refine lv_lconst (v := (1 : Int64)) hx hb dX2_withNano_32 (by decide) ?_
    refine lv_ldc2 (v := (1000000000 : Int64)) hx hb hown (hw _ bw1238) dX2_withNano_33 ?_
    refine lv_iload_n hx hb dX2_withNano_36 rfl (lv_at hl 2 rfl) ?_
    refine lv_i2l (v := (p1.toInt64)) hx hb dX2_withNano_37 (by first | rfl | decide) ?_
    refine wcVi (as := [.int p0, .long (1 : Int64), .long (1000000000 : Int64), .long (p1.toInt64)]) (rest := []) (cl := RX2) C (c_X2_withPart l G b ((fth (fX2_isNone p0) (if (fX2_isFrom (0 : Int32) (999999999 : Int32) p1) = 0 then (1 : Int32) else (0 : Int32))), (my T), (mm T), (md T), (mt T), (T.2.2.2.2.2)) p0 (1 : Int64) (1000000000 : Int64) (p1.toInt64) (none_in (frf_a c_1)) (MO.same hT rfl) (by decide) (by decide)) F_X2_withPart rfl bw1333 bw1335 bw41 (hE.S hS hAB) hP hD hS hA hAB (va_recv hE.K hP (ci := 4) (q0 := 0) rfl rfl) hl.1 dX2_withNano_38 ⟨Nat.le_of_ble_eq_true rfl, Nat.le_of_ble_eq_true rfl⟩ rfl (Nat.le_of_ble_eq_true rfl) ⟨Nat.le_of_ble_eq_true rfl, Nat.le_of_ble_eq_true rfl⟩ (fun H locs hP hD hS => ?_)
    exact we_i (wf := wM G b) hx hb hr hk hP hD hS (Nat.le_of_ble_eq_true rfl) (Nat.le_of_ble_eq_true rfl) dX2_withNano_41 (if_pos c_1)
  · have c_1 := rf_n c_1
    refine lv_iconst (v := (0 : Int32)) hx hb dX2_withNano_26 (by decide) ?_
    refine lv_goto (tgt := 41) hx hb dX2_withNano_27 (by decide) ?_
    exact we_i (wf := wM G b) hx hb hr hk hP hD hS (Nat.le_of_ble_eq_true rfl) (Nat.le_of_ble_eq_true rfl) dX2_withNano_41 (if_neg c_1)

set_option maxRecDepth 100000 in
set_option maxHeartbeats 4000000 in
theorem c_X2_truncate (l : Launch) (G : GT) (b : Nat → Nat) (T : SM) (p0 : Int32) (p1 : Int32) (hT : MO T) : WR l G yX2_truncate cX2_truncate 3 (some .int) 12 0 0 [.ref (b 0), .int p0, .int p1] (wM G b T) (wM G b (gX2_truncate T p0 p1).2) (some (.int (gX2_truncate T p0 p1).1)) := by
  refine WR.ofW (own := RX2) rfl (by decide +kernel) (Nat.le_of_ble_eq_true rfl) ?_
  intro p e s m below meth c A C hr hk hnm hE hP hD hA hAB hS ls hl
  have hx := C.1
  have hb := C.2.1
  have hown := C.2.2.2.1
  have hw := C.2.2.2.2
  have hl : lv_has ls 3 [(0, .ref (b 0)), (1, .int p0), (2, .int p1)] := hl
  refine lv_aload_n hx hb dX2_truncate_0 rfl (lv_at hl 0 rfl) ?_
  refine lv_iload_n hx hb dX2_truncate_1 rfl (lv_at hl 1 rfl) ?_
  refine rcSi (as := [.int p0]) (rest := [.ref (b 0)]) C (c_X2_isNone l G p0) F_X2_isNone rfl bw1216 bw1217 (hE.S hS hAB) vpn hl.1 dX2_truncate_2 ⟨Nat.le_of_ble_eq_true rfl, Nat.le_of_ble_eq_true rfl⟩ rfl (Nat.le_of_ble_eq_true rfl) ⟨Nat.le_of_ble_eq_true rfl, Nat.le_of_ble_eq_true rfl⟩ ?_
  refine lv_iconst (v := (0 : Int32)) hx hb dX2_truncate_5 (by decide) ?_
  refine lv_bipush (v := (7 : Int32)) hx hb dX2_truncate_6 (by decide) ?_
  refine lv_iload_n hx hb dX2_truncate_8 rfl (lv_at hl 2 rfl) ?_
  refine rcSi (as := [.int (0 : Int32), .int (7 : Int32), .int p1]) (rest := [.int (fX2_isNone p0), .ref (b 0)]) C (c_X2_isFrom l G (0 : Int32) (7 : Int32) p1) F_X2_isFrom rfl bw1208 bw1209 (hE.S hS hAB) vpn hl.1 dX2_truncate_9 ⟨Nat.le_of_ble_eq_true rfl, Nat.le_of_ble_eq_true rfl⟩ rfl (Nat.le_of_ble_eq_true rfl) ⟨Nat.le_of_ble_eq_true rfl, Nat.le_of_ble_eq_true rfl⟩ ?_
  refine k_dia (b := (fX2_isFrom (0 : Int32) (7 : Int32) p1) = 0) (x := (1 : Int32)) (y := (0 : Int32)) (Wg := fun z9 => W _ _ _ _ _ _ _ _ _ _ _ _ _ _ _ (F0 m 20 ls (.int z9 :: _))) ?_ (fun t9 f9 => lv_if_ne (tgt := 19) hx hb dX2_truncate_12 (by decide) (fun c_x => lv_iconst (v := (0 : Int32)) hx hb dX2_truncate_19 (by decide) (f9 c_x)) (fun c_x => lv_iconst (v := (1 : Int32)) hx hb dX2_truncate_15 (by decide) (lv_goto (tgt := 20) hx hb dX2_truncate_16 (by decide) (t9 c_x))))
  refine wcVi (as := [.int (fX2_isNone p0), .int (if (fX2_isFrom (0 : Int32) (7 : Int32) p1) = 0 then (1 : Int32) else (0 : Int32))]) (rest := []) (cl := RX2) C (c_X2_refuses l G b T (fX2_isNone p0) (if (fX2_isFrom (0 : Int32) (7 : Int32) p1) = 0 then (1 : Int32) else (0 : Int32))) F_X2_refuses rfl bw1219 bw1221 bw33 (hE.S hS hAB) hP hD hS hA hAB (va_recv hE.K hP (ci := 4) (q0 := 0) rfl rfl) hl.1 dX2_truncate_20 ⟨Nat.le_of_ble_eq_true rfl, Nat.le_of_ble_eq_true rfl⟩ rfl (Nat.le_of_ble_eq_true rfl) ⟨Nat.le_of_ble_eq_true rfl, Nat.le_of_ble_eq_true rfl⟩ (fun H locs hP hD hS => ?_)
  have hP : va_P (gD G) vwCl (wM G b ((fth (fX2_isNone p0) (if (fX2_isFrom (0 : Int32) (7 : Int32) p1) = 0 then (1 : Int32) else (0 : Int32))), (my T), (mm T), (md T), (mt T), (T.2.2.2.2.2))) H := hP
  have hD : va_D A (wM G b ((fth (fX2_isNone p0) (if (fX2_isFrom (0 : Int32) (7 : Int32) p1) = 0 then (1 : Int32) else (0 : Int32))), (my T), (mm T), (md T), (mt T), (T.2.2.2.2.2))) := hD
  refine lv_if_eq (tgt := 28) hx hb dX2_truncate_23 (by decide) (fun c_1 => ?_) (fun c_1 => ?_)
  · have c_1 := rf_p c_1
    refine lv_aload_n hx hb dX2_truncate_28 rfl (lv_at hl 0 rfl) ?_
    refine lv_iload_n hx hb dX2_truncate_29 rfl (lv_at hl 1 rfl) ?_
    refine lv_aload_n hx hb dX2_truncate_30 rfl (lv_at hl 0 rfl) ?_
    refine va_get (D := gD G) (cl := vwCl) (tys := gT G) (ci := 4) (v := .ref (b 1)) (C := RX2) (T := TX2) (N := 12) hx hb hw inB_X2 hown hE.K hP 0 rfl rfl 1 (by decide) (hw _ bw1164) (fun _ h9 => h9) rfl dX2_truncate_31 ?_
    refine lv_iload_n hx hb dX2_truncate_34 rfl (lv_at hl 1 rfl) ?_
    refine va_iald (tys := gT G) hx hb hE.K hP 1 0 rfl rfl (none_in (frf_a c_1)) dX2_truncate_35 ?_
    refine lv_aload_n hx hb dX2_truncate_36 rfl (lv_at hl 0 rfl) ?_
    refine va_get (D := gD G) (cl := vwCl) (tys := gT G) (ci := 4) (v := .ref (b 2)) (C := RX2) (T := TX2) (N := 12) hx hb hw inB_X2 hown hE.K hP 0 rfl rfl 2 (by decide) (hw _ bw1165) (fun _ h9 => h9) rfl dX2_truncate_37 ?_
    refine lv_iload_n hx hb dX2_truncate_40 rfl (lv_at hl 1 rfl) ?_
    refine va_iald (tys := gT G) hx hb hE.K hP 2 0 rfl rfl (none_in (frf_a c_1)) dX2_truncate_41 ?_
    refine lv_aload_n hx hb dX2_truncate_42 rfl (lv_at hl 0 rfl) ?_
    refine va_get (D := gD G) (cl := vwCl) (tys := gT G) (ci := 4) (v := .ref (b 3)) (C := RX2) (T := TX2) (N := 12) hx hb hw inB_X2 hown hE.K hP 0 rfl rfl 3 (by decide) (hw _ bw1166) (fun _ h9 => h9) rfl dX2_truncate_43 ?_
    refine lv_iload_n hx hb dX2_truncate_46 rfl (lv_at hl 1 rfl) ?_
    refine va_iald (tys := gT G) hx hb hE.K hP 3 0 rfl rfl (none_in (frf_a c_1)) dX2_truncate_47 ?_
    refine lv_aload_n hx hb dX2_truncate_48 rfl (lv_at hl 0 rfl) ?_
    refine va_get (D := gD G) (cl := vwCl) (tys := gT G) (ci := 4) (v := .ref (b 4)) (C := RX2) (T := TX2) (N := 12) hx hb hw inB_X2 hown hE.K hP 0 rfl rfl 4 (by decide) (hw _ bw1167) (fun _ h9 => h9) rfl dX2_truncate_49 ?_
    refine lv_iload_n hx hb dX2_truncate_52 rfl (lv_at hl 1 rfl) ?_
    refine va_lald (tys := gT G) hx hb hE.K hP 4 1 rfl rfl (none_in (frf_a c_1)) dX2_truncate_53 ?_
    refine lv_aload_n hx hb dX2_truncate_54 rfl (lv_at hl 0 rfl) ?_
    refine va_get (D := gD G) (cl := vwCl) (tys := gT G) (ci := 4) (v := .ref (b 4)) (C := RX2) (T := TX2) (N := 12) hx hb hw inB_X2 hown hE.K hP 0 rfl rfl 4 (by decide) (hw _ bw1167) (fun _ h9 => h9) rfl dX2_truncate_55 ?_
    refine lv_iload_n hx hb dX2_truncate_58 rfl (lv_at hl 1 rfl) ?_
    refine va_lald (tys := gT G) hx hb hE.K hP 4 1 rfl rfl (none_in (frf_a c_1)) dX2_truncate_59 ?_
    refine lv_iload_n hx hb dX2_truncate_60 rfl (lv_at hl 2 rfl) ?_
    refine rcSl (as := [.int p1]) (rest := [.long ((mt T) p0.toNatClampNeg), .long ((mt T) p0.toNatClampNeg), .int ((md T) p0.toNatClampNeg), .int ((mm T) p0.toNatClampNeg), .int ((my T) p0.toNatClampNeg), .int p0, .ref (b 0)]) C (c_X2_nanosOf l G p1) F_X2_nanosOf rfl bw1354 bw1355 (hE.S hS hAB) vpn hl.1 dX2_truncate_61 ⟨Nat.le_of_ble_eq_true rfl, Nat.le_of_ble_eq_true rfl⟩ rfl (Nat.le_of_ble_eq_true rfl) ⟨Nat.le_of_ble_eq_true rfl, Nat.le_of_ble_eq_true rfl⟩ ?_
    refine lv_lrem hx hb dX2_truncate_64 (nz_nanosOf p1) ?_
    refine lv_lsub hx hb dX2_truncate_65 ?_
    refine wcVi (as := [.int p0, .int ((my T) p0.toNatClampNeg), .int ((mm T) p0.toNatClampNeg), .int ((md T) p0.toNatClampNeg), .long (((mt T) p0.toNatClampNeg) - (((mt T) p0.toNatClampNeg) - ((mt T) p0.toNatClampNeg) / (fX2_nanosOf p1) * (fX2_nanosOf p1)))]) (rest := []) (cl := RX2) C (c_X2_become l G b ((fth (fX2_isNone p0) (if (fX2_isFrom (0 : Int32) (7 : Int32) p1) = 0 then (1 : Int32) else (0 : Int32))), (my T), (mm T), (md T), (mt T), (T.2.2.2.2.2)) p0 ((my T) p0.toNatClampNeg) ((mm T) p0.toNatClampNeg) ((md T) p0.toNatClampNeg) (((mt T) p0.toNatClampNeg) - (((mt T) p0.toNatClampNeg) - ((mt T) p0.toNatClampNeg) / (fX2_nanosOf p1) * (fX2_nanosOf p1))) (none_in (frf_a c_1)) (MO.same hT rfl) (MO.at hT (none_in (frf_a c_1)))) F_X2_become rfl bw1239 bw1241 bw36 (hE.S hS hAB) hP hD hS hA hAB (va_recv hE.K hP (ci := 4) (q0 := 0) rfl rfl) hl.1 dX2_truncate_66 ⟨Nat.le_of_ble_eq_true rfl, Nat.le_of_ble_eq_true rfl⟩ rfl (Nat.le_of_ble_eq_true rfl) ⟨Nat.le_of_ble_eq_true rfl, Nat.le_of_ble_eq_true rfl⟩ (fun H locs hP hD hS => ?_)
    exact we_i (wf := wM G b) hx hb hr hk hP hD hS (Nat.le_of_ble_eq_true rfl) (Nat.le_of_ble_eq_true rfl) dX2_truncate_69 (if_pos c_1)
  · have c_1 := rf_n c_1
    refine lv_iconst (v := (0 : Int32)) hx hb dX2_truncate_26 (by decide) ?_
    exact we_i (wf := wM G b) hx hb hr hk hP hD hS (Nat.le_of_ble_eq_true rfl) (Nat.le_of_ble_eq_true rfl) dX2_truncate_27 (if_neg c_1)

