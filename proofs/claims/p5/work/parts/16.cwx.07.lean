set_option maxRecDepth 100000 in
set_option maxHeartbeats 4000000 in
theorem c_X0_plusSeconds (l : Launch) (G : GT) (a : Nat → Nat) (S : SX) (p0 : Int32) (p1 : Int32) (h0 : vp_in p0 6) : WR l G yX0_plusSeconds cX0_plusSeconds 3 (some .int) 8 0 0 [.ref (a 0), .int p0, .int p1] (wX G a S) (wX G a (gX0_plusSeconds S p0 p1).2) (some (.int (gX0_plusSeconds S p0 p1).1)) := by
  refine WR.ofW (own := RX0) rfl (by decide +kernel) (Nat.le_of_ble_eq_true rfl) ?_
  intro p e s m below meth c A C hr hk hnm hE hP hD hA hAB hS ls hl
  have hx := C.1
  have hb := C.2.1
  have hown := C.2.2.2.1
  have hw := C.2.2.2.2
  have hl : lv_has ls 3 [(0, .ref (a 0)), (1, .int p0), (2, .int p1)] := hl
  refine lv_iload_n hx hb dX0_plusSeconds_0 rfl (lv_at hl 1 rfl) ?_
  refine rcSv (as := [.int p0]) (rest := []) C (c_X0_checkMoment l G p0 h0) F_X0_checkMoment rfl bw387 bw388 (hE.S hS hAB) vpn hl.1 dX0_plusSeconds_1 ⟨Nat.le_of_ble_eq_true rfl, Nat.le_of_ble_eq_true rfl⟩ rfl (Nat.le_of_ble_eq_true rfl) ⟨Nat.le_of_ble_eq_true rfl, Nat.le_of_ble_eq_true rfl⟩ ?_
  refine lv_aload_n hx hb dX0_plusSeconds_4 rfl (lv_at hl 0 rfl) ?_
  refine lv_iload_n hx hb dX0_plusSeconds_5 rfl (lv_at hl 1 rfl) ?_
  refine lv_iload_n hx hb dX0_plusSeconds_6 rfl (lv_at hl 2 rfl) ?_
  refine lv_i2l (v := (p1.toInt64)) hx hb dX0_plusSeconds_7 (by first | rfl | decide) ?_
  refine lv_iconst (v := (3 : Int32)) hx hb dX0_plusSeconds_8 (by decide) ?_
  refine wcVi (as := [.int p0, .long (p1.toInt64), .int (3 : Int32)]) (rest := []) (cl := RX0) C (c_X0_goUnits l G a S p0 (p1.toInt64) (3 : Int32) h0) F_X0_goUnits rfl bw568 bw570 bw26 (hE.S hS hAB) hP hD hS hA hAB (va_recv hE.K hP (ci := 2) (q0 := 0) rfl rfl) hl.1 dX0_plusSeconds_9 ⟨Nat.le_of_ble_eq_true rfl, Nat.le_of_ble_eq_true rfl⟩ rfl (Nat.le_of_ble_eq_true rfl) ⟨Nat.le_of_ble_eq_true rfl, Nat.le_of_ble_eq_true rfl⟩ (fun H locs hP hD hS => ?_)
  exact we_i (wf := wX G a) hx hb hr hk hP hD hS (Nat.le_of_ble_eq_true rfl) (Nat.le_of_ble_eq_true rfl) dX0_plusSeconds_12 rfl

set_option maxRecDepth 100000 in
set_option maxHeartbeats 4000000 in
theorem c_X0_minusSeconds (l : Launch) (G : GT) (a : Nat → Nat) (S : SX) (p0 : Int32) (p1 : Int32) (h0 : vp_in p0 6) : WR l G yX0_minusSeconds cX0_minusSeconds 3 (some .int) 8 0 0 [.ref (a 0), .int p0, .int p1] (wX G a S) (wX G a (gX0_minusSeconds S p0 p1).2) (some (.int (gX0_minusSeconds S p0 p1).1)) := by
  refine WR.ofW (own := RX0) rfl (by decide +kernel) (Nat.le_of_ble_eq_true rfl) ?_
  intro p e s m below meth c A C hr hk hnm hE hP hD hA hAB hS ls hl
  have hx := C.1
  have hb := C.2.1
  have hown := C.2.2.2.1
  have hw := C.2.2.2.2
  have hl : lv_has ls 3 [(0, .ref (a 0)), (1, .int p0), (2, .int p1)] := hl
  refine lv_iload_n hx hb dX0_minusSeconds_0 rfl (lv_at hl 1 rfl) ?_
  refine rcSv (as := [.int p0]) (rest := []) C (c_X0_checkMoment l G p0 h0) F_X0_checkMoment rfl bw387 bw388 (hE.S hS hAB) vpn hl.1 dX0_minusSeconds_1 ⟨Nat.le_of_ble_eq_true rfl, Nat.le_of_ble_eq_true rfl⟩ rfl (Nat.le_of_ble_eq_true rfl) ⟨Nat.le_of_ble_eq_true rfl, Nat.le_of_ble_eq_true rfl⟩ ?_
  refine lv_aload_n hx hb dX0_minusSeconds_4 rfl (lv_at hl 0 rfl) ?_
  refine lv_iload_n hx hb dX0_minusSeconds_5 rfl (lv_at hl 1 rfl) ?_
  refine lv_iload_n hx hb dX0_minusSeconds_6 rfl (lv_at hl 2 rfl) ?_
  refine lv_i2l (v := (p1.toInt64)) hx hb dX0_minusSeconds_7 (by first | rfl | decide) ?_
  refine lv_lneg hx hb dX0_minusSeconds_8 ?_
  refine lv_iconst (v := (3 : Int32)) hx hb dX0_minusSeconds_9 (by decide) ?_
  refine wcVi (as := [.int p0, .long (-(p1.toInt64)), .int (3 : Int32)]) (rest := []) (cl := RX0) C (c_X0_goUnits l G a S p0 (-(p1.toInt64)) (3 : Int32) h0) F_X0_goUnits rfl bw568 bw570 bw26 (hE.S hS hAB) hP hD hS hA hAB (va_recv hE.K hP (ci := 2) (q0 := 0) rfl rfl) hl.1 dX0_minusSeconds_10 ⟨Nat.le_of_ble_eq_true rfl, Nat.le_of_ble_eq_true rfl⟩ rfl (Nat.le_of_ble_eq_true rfl) ⟨Nat.le_of_ble_eq_true rfl, Nat.le_of_ble_eq_true rfl⟩ (fun H locs hP hD hS => ?_)
  exact we_i (wf := wX G a) hx hb hr hk hP hD hS (Nat.le_of_ble_eq_true rfl) (Nat.le_of_ble_eq_true rfl) dX0_minusSeconds_13 rfl

set_option maxRecDepth 100000 in
set_option maxHeartbeats 4000000 in
theorem c_X0_plusNanos (l : Launch) (G : GT) (a : Nat → Nat) (S : SX) (p0 : Int32) (p1 : Int32) (p2 : Int32) (h0 : vp_in p0 6) : WR l G yX0_plusNanos cX0_plusNanos 4 (some .int) 8 0 0 [.ref (a 0), .int p0, .int p1, .int p2] (wX G a S) (wX G a (gX0_plusNanos S p0 p1 p2).2) (some (.int (gX0_plusNanos S p0 p1 p2).1)) := by
  refine WR.ofW (own := RX0) rfl (by decide +kernel) (Nat.le_of_ble_eq_true rfl) ?_
  intro p e s m below meth c A C hr hk hnm hE hP hD hA hAB hS ls hl
  have hx := C.1
  have hb := C.2.1
  have hown := C.2.2.2.1
  have hw := C.2.2.2.2
  have hl : lv_has ls 4 [(0, .ref (a 0)), (1, .int p0), (2, .int p1), (3, .int p2)] := hl
  refine lv_iload_n hx hb dX0_plusNanos_0 rfl (lv_at hl 1 rfl) ?_
  refine rcSv (as := [.int p0]) (rest := []) C (c_X0_checkMoment l G p0 h0) F_X0_checkMoment rfl bw387 bw388 (hE.S hS hAB) vpn hl.1 dX0_plusNanos_1 ⟨Nat.le_of_ble_eq_true rfl, Nat.le_of_ble_eq_true rfl⟩ rfl (Nat.le_of_ble_eq_true rfl) ⟨Nat.le_of_ble_eq_true rfl, Nat.le_of_ble_eq_true rfl⟩ ?_
  refine lv_aload_n hx hb dX0_plusNanos_4 rfl (lv_at hl 0 rfl) ?_
  refine lv_iload_n hx hb dX0_plusNanos_5 rfl (lv_at hl 1 rfl) ?_
  refine lv_lconst (v := (0 : Int64)) hx hb dX0_plusNanos_6 (by decide) ?_
  refine lv_iload_n hx hb dX0_plusNanos_7 rfl (lv_at hl 2 rfl) ?_
  refine lv_i2l (v := (p1.toInt64)) hx hb dX0_plusNanos_8 (by first | rfl | decide) ?_
  refine lv_ldc2 (v := (1000000000 : Int64)) hx hb hown (hw _ bw160) dX0_plusNanos_9 ?_
  refine lv_lmul hx hb dX0_plusNanos_12 ?_
  refine lv_iload_n hx hb dX0_plusNanos_13 rfl (lv_at hl 3 rfl) ?_
  refine lv_i2l (v := (p2.toInt64)) hx hb dX0_plusNanos_14 (by first | rfl | decide) ?_
  refine lv_ladd hx hb dX0_plusNanos_15 ?_
  refine wcVi (as := [.int p0, .long (0 : Int64), .long (((p1.toInt64) * (1000000000 : Int64)) + (p2.toInt64))]) (rest := []) (cl := RX0) C (c_X0_goLine l G a S p0 (0 : Int64) (((p1.toInt64) * (1000000000 : Int64)) + (p2.toInt64)) h0) F_X0_goLine rfl bw572 bw574 bw27 (hE.S hS hAB) hP hD hS hA hAB (va_recv hE.K hP (ci := 2) (q0 := 0) rfl rfl) hl.1 dX0_plusNanos_16 ⟨Nat.le_of_ble_eq_true rfl, Nat.le_of_ble_eq_true rfl⟩ rfl (Nat.le_of_ble_eq_true rfl) ⟨Nat.le_of_ble_eq_true rfl, Nat.le_of_ble_eq_true rfl⟩ (fun H locs hP hD hS => ?_)
  exact we_i (wf := wX G a) hx hb hr hk hP hD hS (Nat.le_of_ble_eq_true rfl) (Nat.le_of_ble_eq_true rfl) dX0_plusNanos_19 rfl

set_option maxRecDepth 100000 in
set_option maxHeartbeats 4000000 in
theorem c_X0_minusNanos (l : Launch) (G : GT) (a : Nat → Nat) (S : SX) (p0 : Int32) (p1 : Int32) (p2 : Int32) (h0 : vp_in p0 6) : WR l G yX0_minusNanos cX0_minusNanos 4 (some .int) 8 0 0 [.ref (a 0), .int p0, .int p1, .int p2] (wX G a S) (wX G a (gX0_minusNanos S p0 p1 p2).2) (some (.int (gX0_minusNanos S p0 p1 p2).1)) := by
  refine WR.ofW (own := RX0) rfl (by decide +kernel) (Nat.le_of_ble_eq_true rfl) ?_
  intro p e s m below meth c A C hr hk hnm hE hP hD hA hAB hS ls hl
  have hx := C.1
  have hb := C.2.1
  have hown := C.2.2.2.1
  have hw := C.2.2.2.2
  have hl : lv_has ls 4 [(0, .ref (a 0)), (1, .int p0), (2, .int p1), (3, .int p2)] := hl
  refine lv_iload_n hx hb dX0_minusNanos_0 rfl (lv_at hl 1 rfl) ?_
  refine rcSv (as := [.int p0]) (rest := []) C (c_X0_checkMoment l G p0 h0) F_X0_checkMoment rfl bw387 bw388 (hE.S hS hAB) vpn hl.1 dX0_minusNanos_1 ⟨Nat.le_of_ble_eq_true rfl, Nat.le_of_ble_eq_true rfl⟩ rfl (Nat.le_of_ble_eq_true rfl) ⟨Nat.le_of_ble_eq_true rfl, Nat.le_of_ble_eq_true rfl⟩ ?_
  refine lv_aload_n hx hb dX0_minusNanos_4 rfl (lv_at hl 0 rfl) ?_
  refine lv_iload_n hx hb dX0_minusNanos_5 rfl (lv_at hl 1 rfl) ?_
  refine lv_lconst (v := (0 : Int64)) hx hb dX0_minusNanos_6 (by decide) ?_
  refine lv_iload_n hx hb dX0_minusNanos_7 rfl (lv_at hl 2 rfl) ?_
  refine lv_i2l (v := (p1.toInt64)) hx hb dX0_minusNanos_8 (by first | rfl | decide) ?_
  refine lv_ldc2 (v := (1000000000 : Int64)) hx hb hown (hw _ bw160) dX0_minusNanos_9 ?_
  refine lv_lmul hx hb dX0_minusNanos_12 ?_
  refine lv_iload_n hx hb dX0_minusNanos_13 rfl (lv_at hl 3 rfl) ?_
  refine lv_i2l (v := (p2.toInt64)) hx hb dX0_minusNanos_14 (by first | rfl | decide) ?_
  refine lv_ladd hx hb dX0_minusNanos_15 ?_
  refine lv_lneg hx hb dX0_minusNanos_16 ?_
  refine wcVi (as := [.int p0, .long (0 : Int64), .long (-(((p1.toInt64) * (1000000000 : Int64)) + (p2.toInt64)))]) (rest := []) (cl := RX0) C (c_X0_goLine l G a S p0 (0 : Int64) (-(((p1.toInt64) * (1000000000 : Int64)) + (p2.toInt64))) h0) F_X0_goLine rfl bw572 bw574 bw27 (hE.S hS hAB) hP hD hS hA hAB (va_recv hE.K hP (ci := 2) (q0 := 0) rfl rfl) hl.1 dX0_minusNanos_17 ⟨Nat.le_of_ble_eq_true rfl, Nat.le_of_ble_eq_true rfl⟩ rfl (Nat.le_of_ble_eq_true rfl) ⟨Nat.le_of_ble_eq_true rfl, Nat.le_of_ble_eq_true rfl⟩ (fun H locs hP hD hS => ?_)
  exact we_i (wf := wX G a) hx hb hr hk hP hD hS (Nat.le_of_ble_eq_true rfl) (Nat.le_of_ble_eq_true rfl) dX0_minusNanos_20 rfl

set_option maxRecDepth 100000 in
set_option maxHeartbeats 4000000 in
theorem c_X0_plusUnits (l : Launch) (G : GT) (a : Nat → Nat) (S : SX) (p0 : Int32) (p1 : Int32) (p2 : Int32) (h0 : vp_in p0 6) (r1 : ¬ p1 < (-100000 : Int32)) (q1 : p1 ≤ (100000 : Int32)) (r2 : ¬ p2 < (0 : Int32)) (q2 : p2 ≤ (13 : Int32)) : WR l G yX0_plusUnits cX0_plusUnits 4 (some .int) 8 0 0 [.ref (a 0), .int p0, .int p1, .int p2] (wX G a S) (wX G a (gX0_plusUnits S p0 p1 p2).2) (some (.int (gX0_plusUnits S p0 p1 p2).1)) := by
  refine WR.ofW (own := RX0) rfl (by decide +kernel) (Nat.le_of_ble_eq_true rfl) ?_
  intro p e s m below meth c A C hr hk hnm hE hP hD hA hAB hS ls hl
  have hx := C.1
  have hb := C.2.1
  have hown := C.2.2.2.1
  have hw := C.2.2.2.2
  have hl : lv_has ls 4 [(0, .ref (a 0)), (1, .int p0), (2, .int p1), (3, .int p2)] := hl
  refine lv_iload_n hx hb dX0_plusUnits_0 rfl (lv_at hl 1 rfl) ?_
  refine rcSv (as := [.int p0]) (rest := []) C (c_X0_checkMoment l G p0 h0) F_X0_checkMoment rfl bw387 bw388 (hE.S hS hAB) vpn hl.1 dX0_plusUnits_1 ⟨Nat.le_of_ble_eq_true rfl, Nat.le_of_ble_eq_true rfl⟩ rfl (Nat.le_of_ble_eq_true rfl) ⟨Nat.le_of_ble_eq_true rfl, Nat.le_of_ble_eq_true rfl⟩ ?_
  refine lv_iload_n hx hb dX0_plusUnits_4 rfl (lv_at hl 2 rfl) ?_
  refine lv_ldc (v := (-100000 : Int32)) hx hb hown (hw _ bw675) dX0_plusUnits_5 ?_
  refine lv_ldc (v := (100000 : Int32)) hx hb hown (hw _ bw676) dX0_plusUnits_7 ?_
  refine rcSv (as := [.int p1, .int (-100000 : Int32), .int (100000 : Int32)]) (rest := []) C (c_X0_checkRange l G p1 (-100000 : Int32) (100000 : Int32) r1 q1) F_X0_checkRange rfl bw308 bw309 (hE.S hS hAB) vpn hl.1 dX0_plusUnits_9 ⟨Nat.le_of_ble_eq_true rfl, Nat.le_of_ble_eq_true rfl⟩ rfl (Nat.le_of_ble_eq_true rfl) ⟨Nat.le_of_ble_eq_true rfl, Nat.le_of_ble_eq_true rfl⟩ ?_
  refine lv_iload_n hx hb dX0_plusUnits_12 rfl (lv_at hl 3 rfl) ?_
  refine lv_iconst (v := (0 : Int32)) hx hb dX0_plusUnits_13 (by decide) ?_
  refine lv_bipush (v := (13 : Int32)) hx hb dX0_plusUnits_14 (by decide) ?_
  refine rcSv (as := [.int p2, .int (0 : Int32), .int (13 : Int32)]) (rest := []) C (c_X0_checkRange l G p2 (0 : Int32) (13 : Int32) r2 q2) F_X0_checkRange rfl bw308 bw309 (hE.S hS hAB) vpn hl.1 dX0_plusUnits_16 ⟨Nat.le_of_ble_eq_true rfl, Nat.le_of_ble_eq_true rfl⟩ rfl (Nat.le_of_ble_eq_true rfl) ⟨Nat.le_of_ble_eq_true rfl, Nat.le_of_ble_eq_true rfl⟩ ?_
  refine lv_iload_n hx hb dX0_plusUnits_19 rfl (lv_at hl 3 rfl) ?_
  refine lv_bipush (v := (9 : Int32)) hx hb dX0_plusUnits_20 (by decide) ?_
  refine lv_icmp_ge (tgt := 34) hx hb dX0_plusUnits_22 (by decide) (fun c_1 => ?_) (fun c_1 => ?_)
  · refine lv_aload_n hx hb dX0_plusUnits_34 rfl (lv_at hl 0 rfl) ?_
    refine lv_iload_n hx hb dX0_plusUnits_35 rfl (lv_at hl 1 rfl) ?_
    refine lv_iload_n hx hb dX0_plusUnits_36 rfl (lv_at hl 2 rfl) ?_
    refine lv_i2l (v := (p1.toInt64)) hx hb dX0_plusUnits_37 (by first | rfl | decide) ?_
    refine lv_iload_n hx hb dX0_plusUnits_38 rfl (lv_at hl 3 rfl) ?_
    refine rcSl (as := [.int p2]) (rest := [.long (p1.toInt64), .int p0, .ref (a 0)]) C (c_X0_monthsOfUnit l G p2) F_X0_monthsOfUnit rfl bw677 bw678 (hE.S hS hAB) vpn hl.1 dX0_plusUnits_39 ⟨Nat.le_of_ble_eq_true rfl, Nat.le_of_ble_eq_true rfl⟩ rfl (Nat.le_of_ble_eq_true rfl) ⟨Nat.le_of_ble_eq_true rfl, Nat.le_of_ble_eq_true rfl⟩ ?_
    refine lv_lmul hx hb dX0_plusUnits_42 ?_
    refine wcVi (as := [.int p0, .long ((p1.toInt64) * (fX0_monthsOfUnit p2))]) (rest := []) (cl := RX0) C (c_X0_goMonths l G a S p0 ((p1.toInt64) * (fX0_monthsOfUnit p2)) h0) F_X0_goMonths rfl bw544 bw546 bw24 (hE.S hS hAB) hP hD hS hA hAB (va_recv hE.K hP (ci := 2) (q0 := 0) rfl rfl) hl.1 dX0_plusUnits_43 ⟨Nat.le_of_ble_eq_true rfl, Nat.le_of_ble_eq_true rfl⟩ rfl (Nat.le_of_ble_eq_true rfl) ⟨Nat.le_of_ble_eq_true rfl, Nat.le_of_ble_eq_true rfl⟩ (fun H locs hP hD hS => ?_)
    exact we_i (wf := wX G a) hx hb hr hk hP hD hS (Nat.le_of_ble_eq_true rfl) (Nat.le_of_ble_eq_true rfl) dX0_plusUnits_46 (if_pos c_1)
  · refine lv_aload_n hx hb dX0_plusUnits_25 rfl (lv_at hl 0 rfl) ?_
    refine lv_iload_n hx hb dX0_plusUnits_26 rfl (lv_at hl 1 rfl) ?_
    refine lv_iload_n hx hb dX0_plusUnits_27 rfl (lv_at hl 2 rfl) ?_
    refine lv_i2l (v := (p1.toInt64)) hx hb dX0_plusUnits_28 (by first | rfl | decide) ?_
    refine lv_iload_n hx hb dX0_plusUnits_29 rfl (lv_at hl 3 rfl) ?_
    refine wcVi (as := [.int p0, .long (p1.toInt64), .int p2]) (rest := []) (cl := RX0) C (c_X0_goUnits l G a S p0 (p1.toInt64) p2 h0) F_X0_goUnits rfl bw568 bw570 bw26 (hE.S hS hAB) hP hD hS hA hAB (va_recv hE.K hP (ci := 2) (q0 := 0) rfl rfl) hl.1 dX0_plusUnits_30 ⟨Nat.le_of_ble_eq_true rfl, Nat.le_of_ble_eq_true rfl⟩ rfl (Nat.le_of_ble_eq_true rfl) ⟨Nat.le_of_ble_eq_true rfl, Nat.le_of_ble_eq_true rfl⟩ (fun H locs hP hD hS => ?_)
    exact we_i (wf := wX G a) hx hb hr hk hP hD hS (Nat.le_of_ble_eq_true rfl) (Nat.le_of_ble_eq_true rfl) dX0_plusUnits_33 (if_neg c_1)

set_option maxRecDepth 100000 in
set_option maxHeartbeats 4000000 in
theorem c_X0_knock (l : Launch) (G : GT) (a : Nat → Nat) (S : SX) : WR l G yX0_knock cX0_knock 1 (some .int) 1 0 0 [.ref (a 0)] (wX G a S) (wX G a (gX0_knock S).2) (some (.int (gX0_knock S).1)) := by
  refine WR.ofW (own := RX0) rfl (by decide +kernel) (Nat.le_of_ble_eq_true rfl) ?_
  intro p e s m below meth c A C hr hk hnm hE hP hD hA hAB hS ls hl
  have hx := C.1
  have hb := C.2.1
  have hown := C.2.2.2.1
  have hw := C.2.2.2.2
  have hl : lv_has ls 1 [(0, .ref (a 0))] := hl
  refine lv_aload_n hx hb dX0_knock_0 rfl (lv_at hl 0 rfl) ?_
  refine lv_dup hx hb dX0_knock_1 rfl ?_
  refine va_get (D := gD G) (cl := vwCl) (tys := gT G) (ci := 2) (v := .int (xi S 6)) (C := RX0) (T := TX0) (N := 12) hx hb hw inB_X0 hown hE.K hP 0 rfl rfl 11 (by decide) (hw _ bw105) (fun _ h9 => h9) rfl dX0_knock_2 ?_
  refine lv_iconst (v := (1 : Int32)) hx hb dX0_knock_5 (by decide) ?_
  refine lv_iadd hx hb dX0_knock_6 ?_
  refine va_put (D := gD G) (cl := vwCl) (tys := gT G) (ci := 2) (v := .int ((xi S 6) + (1 : Int32))) (ty := .int) (C := RX0) (T := TX0) (N := 12) hx hb hw inB_X0 tyX0 tyX0_ok nmX0 hown hE.K hP hD hS 0 rfl rfl 11 (by decide) (hw _ bw105) (fun _ h9 => h9) rfl (by decide +kernel) rfl rfl (Nat.le_of_ble_eq_true rfl) dX0_knock_7 (fun H locs hP hD hS => ?_)
  have hP : va_P (gD G) vwCl (wX G a ((xy S), (xm S), (xd S), (xD S), (xN S), (upd (S.2.2.2.2.2) 6 ((xi S 6) + (1 : Int32))))) H := hP
  have hD : va_D A (wX G a ((xy S), (xm S), (xd S), (xD S), (xN S), (upd (S.2.2.2.2.2) 6 ((xi S 6) + (1 : Int32))))) := hD
  refine lv_aload_n hx hb dX0_knock_10 rfl (lv_at hl 0 rfl) ?_
  refine va_get (D := gD G) (cl := vwCl) (tys := gT G) (ci := 2) (v := .int ((xi S 6) + (1 : Int32))) (C := RX0) (T := TX0) (N := 12) hx hb hw inB_X0 hown hE.K hP 0 rfl rfl 11 (by decide) (hw _ bw105) (fun _ h9 => h9) rfl dX0_knock_11 ?_
  exact we_i (wf := wX G a) hx hb hr hk hP hD hS (Nat.le_of_ble_eq_true rfl) (Nat.le_of_ble_eq_true rfl) dX0_knock_14 rfl
