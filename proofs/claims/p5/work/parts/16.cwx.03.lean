set_option maxRecDepth 100000 in
set_option maxHeartbeats 4000000 in
theorem c_X0_ofDay (l : Launch) (G : GT) (a : Nat → Nat) (S : SX) (p0 : Int32) (p1 : Int32) (h0 : vp_in p0 6) (r1 : ¬ p1 < (-10000000 : Int32)) (q1 : p1 ≤ (10000000 : Int32)) : WR l G yX0_ofDay cX0_ofDay 3 (some .int) 8 0 0 [.ref (a 0), .int p0, .int p1] (wX G a S) (wX G a (gX0_ofDay S p0 p1).2) (some (.int (gX0_ofDay S p0 p1).1)) := by
  refine WR.ofW (own := RX0) rfl (by decide +kernel) (Nat.le_of_ble_eq_true rfl) ?_
  intro p e s m below meth c A C hr hk hnm hE hP hD hA hAB hS ls hl
  have hx := C.1
  have hb := C.2.1
  have hown := C.2.2.2.1
  have hw := C.2.2.2.2
  have hl : lv_has ls 3 [(0, .ref (a 0)), (1, .int p0), (2, .int p1)] := hl
  refine lv_iload_n hx hb dX0_ofDay_0 rfl (lv_at hl 1 rfl) ?_
  refine rcSv (as := [.int p0]) (rest := []) C (c_X0_checkMoment l G p0 h0) F_X0_checkMoment rfl bw387 bw388 (hE.S hS hAB) vpn hl.1 dX0_ofDay_1 ⟨Nat.le_of_ble_eq_true rfl, Nat.le_of_ble_eq_true rfl⟩ rfl (Nat.le_of_ble_eq_true rfl) ⟨Nat.le_of_ble_eq_true rfl, Nat.le_of_ble_eq_true rfl⟩ ?_
  refine lv_iload_n hx hb dX0_ofDay_4 rfl (lv_at hl 2 rfl) ?_
  refine lv_ldc (v := (-10000000 : Int32)) hx hb hown (hw _ bw425) dX0_ofDay_5 ?_
  refine lv_ldc (v := (10000000 : Int32)) hx hb hown (hw _ bw426) dX0_ofDay_7 ?_
  refine rcSv (as := [.int p1, .int (-10000000 : Int32), .int (10000000 : Int32)]) (rest := []) C (c_X0_checkRange l G p1 (-10000000 : Int32) (10000000 : Int32) r1 q1) F_X0_checkRange rfl bw308 bw309 (hE.S hS hAB) vpn hl.1 dX0_ofDay_9 ⟨Nat.le_of_ble_eq_true rfl, Nat.le_of_ble_eq_true rfl⟩ rfl (Nat.le_of_ble_eq_true rfl) ⟨Nat.le_of_ble_eq_true rfl, Nat.le_of_ble_eq_true rfl⟩ ?_
  refine lv_aload_n hx hb dX0_ofDay_12 rfl (lv_at hl 0 rfl) ?_
  refine lv_iload_n hx hb dX0_ofDay_13 rfl (lv_at hl 1 rfl) ?_
  refine lv_iload_n hx hb dX0_ofDay_14 rfl (lv_at hl 2 rfl) ?_
  refine lv_i2l (v := (p1.toInt64)) hx hb dX0_ofDay_15 (by first | rfl | decide) ?_
  refine lv_aload_n hx hb dX0_ofDay_16 rfl (lv_at hl 0 rfl) ?_
  refine lv_iconst (v := (2 : Int32)) hx hb dX0_ofDay_17 (by decide) ?_
  refine rcVl (as := [.int (2 : Int32)]) (rest := [.long (p1.toInt64), .int p0, .ref (a 0)]) (cl := RX0) C (c_X0_handTime l G a S (2 : Int32)) F_X0_handTime rfl bw406 bw408 bw18 (hE.S hS hAB) hP (va_recv hE.K hP (ci := 2) (q0 := 0) rfl rfl) hl.1 dX0_ofDay_18 ⟨Nat.le_of_ble_eq_true rfl, Nat.le_of_ble_eq_true rfl⟩ rfl (Nat.le_of_ble_eq_true rfl) ⟨Nat.le_of_ble_eq_true rfl, Nat.le_of_ble_eq_true rfl⟩ ?_
  refine wcVi (as := [.int p0, .long (p1.toInt64), .long (fX0_handTime S (2 : Int32))]) (rest := []) (cl := RX0) C (c_X0_becomeDay l G a S p0 (p1.toInt64) (fX0_handTime S (2 : Int32)) h0) F_X0_becomeDay rfl bw427 bw429 bw21 (hE.S hS hAB) hP hD hS hA hAB (va_recv hE.K hP (ci := 2) (q0 := 0) rfl rfl) hl.1 dX0_ofDay_21 ⟨Nat.le_of_ble_eq_true rfl, Nat.le_of_ble_eq_true rfl⟩ rfl (Nat.le_of_ble_eq_true rfl) ⟨Nat.le_of_ble_eq_true rfl, Nat.le_of_ble_eq_true rfl⟩ (fun H locs hP hD hS => ?_)
  exact we_i (wf := wX G a) hx hb hr hk hP hD hS (Nat.le_of_ble_eq_true rfl) (Nat.le_of_ble_eq_true rfl) dX0_ofDay_24 rfl

set_option maxRecDepth 100000 in
set_option maxHeartbeats 4000000 in
theorem c_X0_copy (l : Launch) (G : GT) (a : Nat → Nat) (S : SX) (p0 : Int32) (p1 : Int32) (h0 : vp_in p0 6) (h1 : vp_in p1 6) : WR l G yX0_copy cX0_copy 3 (some .int) 8 0 0 [.ref (a 0), .int p0, .int p1] (wX G a S) (wX G a (gX0_copy S p0 p1).2) (some (.int (gX0_copy S p0 p1).1)) := by
  refine WR.ofW (own := RX0) rfl (by decide +kernel) (Nat.le_of_ble_eq_true rfl) ?_
  intro p e s m below meth c A C hr hk hnm hE hP hD hA hAB hS ls hl
  have hx := C.1
  have hb := C.2.1
  have hown := C.2.2.2.1
  have hw := C.2.2.2.2
  have hl : lv_has ls 3 [(0, .ref (a 0)), (1, .int p0), (2, .int p1)] := hl
  refine lv_iload_n hx hb dX0_copy_0 rfl (lv_at hl 1 rfl) ?_
  refine rcSv (as := [.int p0]) (rest := []) C (c_X0_checkMoment l G p0 h0) F_X0_checkMoment rfl bw387 bw388 (hE.S hS hAB) vpn hl.1 dX0_copy_1 ⟨Nat.le_of_ble_eq_true rfl, Nat.le_of_ble_eq_true rfl⟩ rfl (Nat.le_of_ble_eq_true rfl) ⟨Nat.le_of_ble_eq_true rfl, Nat.le_of_ble_eq_true rfl⟩ ?_
  refine lv_iload_n hx hb dX0_copy_4 rfl (lv_at hl 2 rfl) ?_
  refine rcSv (as := [.int p1]) (rest := []) C (c_X0_checkMoment l G p1 h1) F_X0_checkMoment rfl bw387 bw388 (hE.S hS hAB) vpn hl.1 dX0_copy_5 ⟨Nat.le_of_ble_eq_true rfl, Nat.le_of_ble_eq_true rfl⟩ rfl (Nat.le_of_ble_eq_true rfl) ⟨Nat.le_of_ble_eq_true rfl, Nat.le_of_ble_eq_true rfl⟩ ?_
  refine lv_aload_n hx hb dX0_copy_8 rfl (lv_at hl 0 rfl) ?_
  refine lv_iload_n hx hb dX0_copy_9 rfl (lv_at hl 1 rfl) ?_
  refine lv_iload_n hx hb dX0_copy_10 rfl (lv_at hl 2 rfl) ?_
  refine lv_aload_n hx hb dX0_copy_11 rfl (lv_at hl 0 rfl) ?_
  refine va_get (D := gD G) (cl := vwCl) (tys := gT G) (ci := 2) (v := .ref (a 5)) (C := RX0) (T := TX0) (N := 12) hx hb hw inB_X0 hown hE.K hP 0 rfl rfl 4 (by decide) (hw _ bw98) (fun _ h9 => h9) rfl dX0_copy_12 ?_
  refine lv_iload_n hx hb dX0_copy_15 rfl (lv_at hl 2 rfl) ?_
  refine va_lald (tys := gT G) hx hb hE.K hP 5 1 rfl rfl h1 dX0_copy_16 ?_
  refine wcVi (as := [.int p0, .int p1, .long ((xN S) p1.toNatClampNeg)]) (rest := []) (cl := RX0) C (c_X0_becomeAs l G a S p0 p1 ((xN S) p1.toNatClampNeg) h0 h1) F_X0_becomeAs rfl bw446 bw448 bw22 (hE.S hS hAB) hP hD hS hA hAB (va_recv hE.K hP (ci := 2) (q0 := 0) rfl rfl) hl.1 dX0_copy_17 ⟨Nat.le_of_ble_eq_true rfl, Nat.le_of_ble_eq_true rfl⟩ rfl (Nat.le_of_ble_eq_true rfl) ⟨Nat.le_of_ble_eq_true rfl, Nat.le_of_ble_eq_true rfl⟩ (fun H locs hP hD hS => ?_)
  exact we_i (wf := wX G a) hx hb hr hk hP hD hS (Nat.le_of_ble_eq_true rfl) (Nat.le_of_ble_eq_true rfl) dX0_copy_20 rfl

set_option maxRecDepth 100000 in
set_option maxHeartbeats 4000000 in
theorem c_X0_takeDate (l : Launch) (G : GT) (a : Nat → Nat) (S : SX) (p0 : Int32) (p1 : Int32) (h0 : vp_in p0 6) (h1 : vp_in p1 6) : WR l G yX0_takeDate cX0_takeDate 3 (some .int) 8 0 0 [.ref (a 0), .int p0, .int p1] (wX G a S) (wX G a (gX0_takeDate S p0 p1).2) (some (.int (gX0_takeDate S p0 p1).1)) := by
  refine WR.ofW (own := RX0) rfl (by decide +kernel) (Nat.le_of_ble_eq_true rfl) ?_
  intro p e s m below meth c A C hr hk hnm hE hP hD hA hAB hS ls hl
  have hx := C.1
  have hb := C.2.1
  have hown := C.2.2.2.1
  have hw := C.2.2.2.2
  have hl : lv_has ls 3 [(0, .ref (a 0)), (1, .int p0), (2, .int p1)] := hl
  refine lv_iload_n hx hb dX0_takeDate_0 rfl (lv_at hl 1 rfl) ?_
  refine rcSv (as := [.int p0]) (rest := []) C (c_X0_checkMoment l G p0 h0) F_X0_checkMoment rfl bw387 bw388 (hE.S hS hAB) vpn hl.1 dX0_takeDate_1 ⟨Nat.le_of_ble_eq_true rfl, Nat.le_of_ble_eq_true rfl⟩ rfl (Nat.le_of_ble_eq_true rfl) ⟨Nat.le_of_ble_eq_true rfl, Nat.le_of_ble_eq_true rfl⟩ ?_
  refine lv_iload_n hx hb dX0_takeDate_4 rfl (lv_at hl 2 rfl) ?_
  refine rcSv (as := [.int p1]) (rest := []) C (c_X0_checkMoment l G p1 h1) F_X0_checkMoment rfl bw387 bw388 (hE.S hS hAB) vpn hl.1 dX0_takeDate_5 ⟨Nat.le_of_ble_eq_true rfl, Nat.le_of_ble_eq_true rfl⟩ rfl (Nat.le_of_ble_eq_true rfl) ⟨Nat.le_of_ble_eq_true rfl, Nat.le_of_ble_eq_true rfl⟩ ?_
  refine lv_aload_n hx hb dX0_takeDate_8 rfl (lv_at hl 0 rfl) ?_
  refine lv_iload_n hx hb dX0_takeDate_9 rfl (lv_at hl 1 rfl) ?_
  refine lv_iload_n hx hb dX0_takeDate_10 rfl (lv_at hl 2 rfl) ?_
  refine lv_aload_n hx hb dX0_takeDate_11 rfl (lv_at hl 0 rfl) ?_
  refine va_get (D := gD G) (cl := vwCl) (tys := gT G) (ci := 2) (v := .ref (a 5)) (C := RX0) (T := TX0) (N := 12) hx hb hw inB_X0 hown hE.K hP 0 rfl rfl 4 (by decide) (hw _ bw98) (fun _ h9 => h9) rfl dX0_takeDate_12 ?_
  refine lv_iload_n hx hb dX0_takeDate_15 rfl (lv_at hl 1 rfl) ?_
  refine va_lald (tys := gT G) hx hb hE.K hP 5 1 rfl rfl h0 dX0_takeDate_16 ?_
  refine wcVi (as := [.int p0, .int p1, .long ((xN S) p0.toNatClampNeg)]) (rest := []) (cl := RX0) C (c_X0_becomeAs l G a S p0 p1 ((xN S) p0.toNatClampNeg) h0 h1) F_X0_becomeAs rfl bw446 bw448 bw22 (hE.S hS hAB) hP hD hS hA hAB (va_recv hE.K hP (ci := 2) (q0 := 0) rfl rfl) hl.1 dX0_takeDate_17 ⟨Nat.le_of_ble_eq_true rfl, Nat.le_of_ble_eq_true rfl⟩ rfl (Nat.le_of_ble_eq_true rfl) ⟨Nat.le_of_ble_eq_true rfl, Nat.le_of_ble_eq_true rfl⟩ (fun H locs hP hD hS => ?_)
  exact we_i (wf := wX G a) hx hb hr hk hP hD hS (Nat.le_of_ble_eq_true rfl) (Nat.le_of_ble_eq_true rfl) dX0_takeDate_20 rfl

set_option maxRecDepth 100000 in
set_option maxHeartbeats 4000000 in
theorem c_X0_takeTime (l : Launch) (G : GT) (a : Nat → Nat) (S : SX) (p0 : Int32) (p1 : Int32) (h0 : vp_in p0 6) (h1 : vp_in p1 6) : WR l G yX0_takeTime cX0_takeTime 3 (some .int) 8 0 0 [.ref (a 0), .int p0, .int p1] (wX G a S) (wX G a (gX0_takeTime S p0 p1).2) (some (.int (gX0_takeTime S p0 p1).1)) := by
  refine WR.ofW (own := RX0) rfl (by decide +kernel) (Nat.le_of_ble_eq_true rfl) ?_
  intro p e s m below meth c A C hr hk hnm hE hP hD hA hAB hS ls hl
  have hx := C.1
  have hb := C.2.1
  have hown := C.2.2.2.1
  have hw := C.2.2.2.2
  have hl : lv_has ls 3 [(0, .ref (a 0)), (1, .int p0), (2, .int p1)] := hl
  refine lv_iload_n hx hb dX0_takeTime_0 rfl (lv_at hl 1 rfl) ?_
  refine rcSv (as := [.int p0]) (rest := []) C (c_X0_checkMoment l G p0 h0) F_X0_checkMoment rfl bw387 bw388 (hE.S hS hAB) vpn hl.1 dX0_takeTime_1 ⟨Nat.le_of_ble_eq_true rfl, Nat.le_of_ble_eq_true rfl⟩ rfl (Nat.le_of_ble_eq_true rfl) ⟨Nat.le_of_ble_eq_true rfl, Nat.le_of_ble_eq_true rfl⟩ ?_
  refine lv_iload_n hx hb dX0_takeTime_4 rfl (lv_at hl 2 rfl) ?_
  refine rcSv (as := [.int p1]) (rest := []) C (c_X0_checkMoment l G p1 h1) F_X0_checkMoment rfl bw387 bw388 (hE.S hS hAB) vpn hl.1 dX0_takeTime_5 ⟨Nat.le_of_ble_eq_true rfl, Nat.le_of_ble_eq_true rfl⟩ rfl (Nat.le_of_ble_eq_true rfl) ⟨Nat.le_of_ble_eq_true rfl, Nat.le_of_ble_eq_true rfl⟩ ?_
  refine lv_aload_n hx hb dX0_takeTime_8 rfl (lv_at hl 0 rfl) ?_
  refine lv_iload_n hx hb dX0_takeTime_9 rfl (lv_at hl 1 rfl) ?_
  refine lv_iload_n hx hb dX0_takeTime_10 rfl (lv_at hl 1 rfl) ?_
  refine lv_aload_n hx hb dX0_takeTime_11 rfl (lv_at hl 0 rfl) ?_
  refine va_get (D := gD G) (cl := vwCl) (tys := gT G) (ci := 2) (v := .ref (a 5)) (C := RX0) (T := TX0) (N := 12) hx hb hw inB_X0 hown hE.K hP 0 rfl rfl 4 (by decide) (hw _ bw98) (fun _ h9 => h9) rfl dX0_takeTime_12 ?_
  refine lv_iload_n hx hb dX0_takeTime_15 rfl (lv_at hl 2 rfl) ?_
  refine va_lald (tys := gT G) hx hb hE.K hP 5 1 rfl rfl h1 dX0_takeTime_16 ?_
  refine wcVi (as := [.int p0, .int p0, .long ((xN S) p1.toNatClampNeg)]) (rest := []) (cl := RX0) C (c_X0_becomeAs l G a S p0 p0 ((xN S) p1.toNatClampNeg) h0 h0) F_X0_becomeAs rfl bw446 bw448 bw22 (hE.S hS hAB) hP hD hS hA hAB (va_recv hE.K hP (ci := 2) (q0 := 0) rfl rfl) hl.1 dX0_takeTime_17 ⟨Nat.le_of_ble_eq_true rfl, Nat.le_of_ble_eq_true rfl⟩ rfl (Nat.le_of_ble_eq_true rfl) ⟨Nat.le_of_ble_eq_true rfl, Nat.le_of_ble_eq_true rfl⟩ (fun H locs hP hD hS => ?_)
  exact we_i (wf := wX G a) hx hb hr hk hP hD hS (Nat.le_of_ble_eq_true rfl) (Nat.le_of_ble_eq_true rfl) dX0_takeTime_20 rfl

set_option maxRecDepth 100000 in
set_option maxHeartbeats 4000000 in
theorem c_X0_withYear (l : Launch) (G : GT) (a : Nat → Nat) (S : SX) (p0 : Int32) (p1 : Int32) (h0 : vp_in p0 6) (r1 : ¬ p1 < (-9999 : Int32)) (q1 : p1 ≤ (9999 : Int32)) : WR l G yX0_withYear cX0_withYear 3 (some .int) 8 0 0 [.ref (a 0), .int p0, .int p1] (wX G a S) (wX G a (gX0_withYear S p0 p1).2) (some (.int (gX0_withYear S p0 p1).1)) := by
  refine WR.ofW (own := RX0) rfl (by decide +kernel) (Nat.le_of_ble_eq_true rfl) ?_
  intro p e s m below meth c A C hr hk hnm hE hP hD hA hAB hS ls hl
  have hx := C.1
  have hb := C.2.1
  have hown := C.2.2.2.1
  have hw := C.2.2.2.2
  have hl : lv_has ls 3 [(0, .ref (a 0)), (1, .int p0), (2, .int p1)] := hl
  refine lv_iload_n hx hb dX0_withYear_0 rfl (lv_at hl 1 rfl) ?_
  refine rcSv (as := [.int p0]) (rest := []) C (c_X0_checkMoment l G p0 h0) F_X0_checkMoment rfl bw387 bw388 (hE.S hS hAB) vpn hl.1 dX0_withYear_1 ⟨Nat.le_of_ble_eq_true rfl, Nat.le_of_ble_eq_true rfl⟩ rfl (Nat.le_of_ble_eq_true rfl) ⟨Nat.le_of_ble_eq_true rfl, Nat.le_of_ble_eq_true rfl⟩ ?_
  refine lv_iload_n hx hb dX0_withYear_4 rfl (lv_at hl 2 rfl) ?_
  refine lv_sipush (v := (-9999 : Int32)) hx hb dX0_withYear_5 (by decide) ?_
  refine lv_sipush (v := (9999 : Int32)) hx hb dX0_withYear_8 (by decide) ?_
  refine rcSv (as := [.int p1, .int (-9999 : Int32), .int (9999 : Int32)]) (rest := []) C (c_X0_checkRange l G p1 (-9999 : Int32) (9999 : Int32) r1 q1) F_X0_checkRange rfl bw308 bw309 (hE.S hS hAB) vpn hl.1 dX0_withYear_11 ⟨Nat.le_of_ble_eq_true rfl, Nat.le_of_ble_eq_true rfl⟩ rfl (Nat.le_of_ble_eq_true rfl) ⟨Nat.le_of_ble_eq_true rfl, Nat.le_of_ble_eq_true rfl⟩ ?_
  refine lv_aload_n hx hb dX0_withYear_14 rfl (lv_at hl 0 rfl) ?_
  refine lv_iload_n hx hb dX0_withYear_15 rfl (lv_at hl 1 rfl) ?_
  refine lv_iload_n hx hb dX0_withYear_16 rfl (lv_at hl 2 rfl) ?_
  refine lv_aload_n hx hb dX0_withYear_17 rfl (lv_at hl 0 rfl) ?_
  refine va_get (D := gD G) (cl := vwCl) (tys := gT G) (ci := 2) (v := .ref (a 2)) (C := RX0) (T := TX0) (N := 12) hx hb hw inB_X0 hown hE.K hP 0 rfl rfl 1 (by decide) (hw _ bw95) (fun _ h9 => h9) rfl dX0_withYear_18 ?_
  refine lv_iload_n hx hb dX0_withYear_21 rfl (lv_at hl 1 rfl) ?_
  refine va_iald (tys := gT G) hx hb hE.K hP 2 0 rfl rfl h0 dX0_withYear_22 ?_
  refine wcVi (as := [.int p0, .int p1, .int ((xm S) p0.toNatClampNeg)]) (rest := []) (cl := RX0) C (c_X0_becomeMonth l G a S p0 p1 ((xm S) p0.toNatClampNeg) h0) F_X0_becomeMonth rfl bw471 bw473 bw23 (hE.S hS hAB) hP hD hS hA hAB (va_recv hE.K hP (ci := 2) (q0 := 0) rfl rfl) hl.1 dX0_withYear_23 ⟨Nat.le_of_ble_eq_true rfl, Nat.le_of_ble_eq_true rfl⟩ rfl (Nat.le_of_ble_eq_true rfl) ⟨Nat.le_of_ble_eq_true rfl, Nat.le_of_ble_eq_true rfl⟩ (fun H locs hP hD hS => ?_)
  exact we_i (wf := wX G a) hx hb hr hk hP hD hS (Nat.le_of_ble_eq_true rfl) (Nat.le_of_ble_eq_true rfl) dX0_withYear_26 rfl

set_option maxRecDepth 100000 in
set_option maxHeartbeats 4000000 in
theorem c_X0_withMonth (l : Launch) (G : GT) (a : Nat → Nat) (S : SX) (p0 : Int32) (p1 : Int32) (h0 : vp_in p0 6) (r1 : ¬ p1 < (1 : Int32)) (q1 : p1 ≤ (12 : Int32)) : WR l G yX0_withMonth cX0_withMonth 3 (some .int) 8 0 0 [.ref (a 0), .int p0, .int p1] (wX G a S) (wX G a (gX0_withMonth S p0 p1).2) (some (.int (gX0_withMonth S p0 p1).1)) := by
  refine WR.ofW (own := RX0) rfl (by decide +kernel) (Nat.le_of_ble_eq_true rfl) ?_
  intro p e s m below meth c A C hr hk hnm hE hP hD hA hAB hS ls hl
  have hx := C.1
  have hb := C.2.1
  have hown := C.2.2.2.1
  have hw := C.2.2.2.2
  have hl : lv_has ls 3 [(0, .ref (a 0)), (1, .int p0), (2, .int p1)] := hl
  refine lv_iload_n hx hb dX0_withMonth_0 rfl (lv_at hl 1 rfl) ?_
  refine rcSv (as := [.int p0]) (rest := []) C (c_X0_checkMoment l G p0 h0) F_X0_checkMoment rfl bw387 bw388 (hE.S hS hAB) vpn hl.1 dX0_withMonth_1 ⟨Nat.le_of_ble_eq_true rfl, Nat.le_of_ble_eq_true rfl⟩ rfl (Nat.le_of_ble_eq_true rfl) ⟨Nat.le_of_ble_eq_true rfl, Nat.le_of_ble_eq_true rfl⟩ ?_
  refine lv_iload_n hx hb dX0_withMonth_4 rfl (lv_at hl 2 rfl) ?_
  refine lv_iconst (v := (1 : Int32)) hx hb dX0_withMonth_5 (by decide) ?_
  refine lv_bipush (v := (12 : Int32)) hx hb dX0_withMonth_6 (by decide) ?_
  refine rcSv (as := [.int p1, .int (1 : Int32), .int (12 : Int32)]) (rest := []) C (c_X0_checkRange l G p1 (1 : Int32) (12 : Int32) r1 q1) F_X0_checkRange rfl bw308 bw309 (hE.S hS hAB) vpn hl.1 dX0_withMonth_8 ⟨Nat.le_of_ble_eq_true rfl, Nat.le_of_ble_eq_true rfl⟩ rfl (Nat.le_of_ble_eq_true rfl) ⟨Nat.le_of_ble_eq_true rfl, Nat.le_of_ble_eq_true rfl⟩ ?_
  refine lv_aload_n hx hb dX0_withMonth_11 rfl (lv_at hl 0 rfl) ?_
  refine lv_iload_n hx hb dX0_withMonth_12 rfl (lv_at hl 1 rfl) ?_
  refine lv_aload_n hx hb dX0_withMonth_13 rfl (lv_at hl 0 rfl) ?_
  refine va_get (D := gD G) (cl := vwCl) (tys := gT G) (ci := 2) (v := .ref (a 1)) (C := RX0) (T := TX0) (N := 12) hx hb hw inB_X0 hown hE.K hP 0 rfl rfl 0 (by decide) (hw _ bw94) (fun _ h9 => h9) rfl dX0_withMonth_14 ?_
  refine lv_iload_n hx hb dX0_withMonth_17 rfl (lv_at hl 1 rfl) ?_
  refine va_iald (tys := gT G) hx hb hE.K hP 1 0 rfl rfl h0 dX0_withMonth_18 ?_
  refine lv_iload_n hx hb dX0_withMonth_19 rfl (lv_at hl 2 rfl) ?_
  refine wcVi (as := [.int p0, .int ((xy S) p0.toNatClampNeg), .int p1]) (rest := []) (cl := RX0) C (c_X0_becomeMonth l G a S p0 ((xy S) p0.toNatClampNeg) p1 h0) F_X0_becomeMonth rfl bw471 bw473 bw23 (hE.S hS hAB) hP hD hS hA hAB (va_recv hE.K hP (ci := 2) (q0 := 0) rfl rfl) hl.1 dX0_withMonth_20 ⟨Nat.le_of_ble_eq_true rfl, Nat.le_of_ble_eq_true rfl⟩ rfl (Nat.le_of_ble_eq_true rfl) ⟨Nat.le_of_ble_eq_true rfl, Nat.le_of_ble_eq_true rfl⟩ (fun H locs hP hD hS => ?_)
  exact we_i (wf := wX G a) hx hb hr hk hP hD hS (Nat.le_of_ble_eq_true rfl) (Nat.le_of_ble_eq_true rfl) dX0_withMonth_23 rfl

