set_option maxRecDepth 100000 in
set_option maxHeartbeats 4000000 in
theorem c_X0_minusMonths (l : Launch) (G : GT) (a : Nat → Nat) (S : SX) (p0 : Int32) (p1 : Int32) (h0 : vp_in p0 6) : WR l G yX0_minusMonths cX0_minusMonths 3 (some .int) 8 0 0 [.ref (a 0), .int p0, .int p1] (wX G a S) (wX G a (gX0_minusMonths S p0 p1).2) (some (.int (gX0_minusMonths S p0 p1).1)) := by
  refine WR.ofW (own := RX0) rfl (by decide +kernel) (Nat.le_of_ble_eq_true rfl) ?_
  intro p e s m below meth c A C hr hk hnm hE hP hD hA hAB hS ls hl
  have hx := C.1
  have hb := C.2.1
  have hown := C.2.2.2.1
  have hw := C.2.2.2.2
  have hl : lv_has ls 3 [(0, .ref (a 0)), (1, .int p0), (2, .int p1)] := hl
  refine lv_iload_n hx hb dX0_minusMonths_0 rfl (lv_at hl 1 rfl) ?_
  refine rcSv (as := [.int p0]) (rest := []) C (c_X0_checkMoment l G p0 h0) F_X0_checkMoment rfl bw387 bw388 (hE.S hS hAB) vpn hl.1 dX0_minusMonths_1 ⟨Nat.le_of_ble_eq_true rfl, Nat.le_of_ble_eq_true rfl⟩ rfl (Nat.le_of_ble_eq_true rfl) ⟨Nat.le_of_ble_eq_true rfl, Nat.le_of_ble_eq_true rfl⟩ ?_
  refine lv_aload_n hx hb dX0_minusMonths_4 rfl (lv_at hl 0 rfl) ?_
  refine lv_iload_n hx hb dX0_minusMonths_5 rfl (lv_at hl 1 rfl) ?_
  refine lv_iload_n hx hb dX0_minusMonths_6 rfl (lv_at hl 2 rfl) ?_
  refine lv_i2l (v := (p1.toInt64)) hx hb dX0_minusMonths_7 (by first | rfl | decide) ?_
  refine lv_lneg hx hb dX0_minusMonths_8 ?_
  refine wcVi (as := [.int p0, .long (-(p1.toInt64))]) (rest := []) (cl := RX0) C (c_X0_goMonths l G a S p0 (-(p1.toInt64)) h0) F_X0_goMonths rfl bw544 bw546 bw24 (hE.S hS hAB) hP hD hS hA hAB (va_recv hE.K hP (ci := 2) (q0 := 0) rfl rfl) hl.1 dX0_minusMonths_9 ⟨Nat.le_of_ble_eq_true rfl, Nat.le_of_ble_eq_true rfl⟩ rfl (Nat.le_of_ble_eq_true rfl) ⟨Nat.le_of_ble_eq_true rfl, Nat.le_of_ble_eq_true rfl⟩ (fun H locs hP hD hS => ?_)
  exact we_i (wf := wX G a) hx hb hr hk hP hD hS (Nat.le_of_ble_eq_true rfl) (Nat.le_of_ble_eq_true rfl) dX0_minusMonths_12 rfl

set_option maxRecDepth 100000 in
set_option maxHeartbeats 4000000 in
theorem c_X0_plusWeeks (l : Launch) (G : GT) (a : Nat → Nat) (S : SX) (p0 : Int32) (p1 : Int32) (h0 : vp_in p0 6) : WR l G yX0_plusWeeks cX0_plusWeeks 3 (some .int) 8 0 0 [.ref (a 0), .int p0, .int p1] (wX G a S) (wX G a (gX0_plusWeeks S p0 p1).2) (some (.int (gX0_plusWeeks S p0 p1).1)) := by
  refine WR.ofW (own := RX0) rfl (by decide +kernel) (Nat.le_of_ble_eq_true rfl) ?_
  intro p e s m below meth c A C hr hk hnm hE hP hD hA hAB hS ls hl
  have hx := C.1
  have hb := C.2.1
  have hown := C.2.2.2.1
  have hw := C.2.2.2.2
  have hl : lv_has ls 3 [(0, .ref (a 0)), (1, .int p0), (2, .int p1)] := hl
  refine lv_iload_n hx hb dX0_plusWeeks_0 rfl (lv_at hl 1 rfl) ?_
  refine rcSv (as := [.int p0]) (rest := []) C (c_X0_checkMoment l G p0 h0) F_X0_checkMoment rfl bw387 bw388 (hE.S hS hAB) vpn hl.1 dX0_plusWeeks_1 ⟨Nat.le_of_ble_eq_true rfl, Nat.le_of_ble_eq_true rfl⟩ rfl (Nat.le_of_ble_eq_true rfl) ⟨Nat.le_of_ble_eq_true rfl, Nat.le_of_ble_eq_true rfl⟩ ?_
  refine lv_aload_n hx hb dX0_plusWeeks_4 rfl (lv_at hl 0 rfl) ?_
  refine lv_iload_n hx hb dX0_plusWeeks_5 rfl (lv_at hl 1 rfl) ?_
  refine lv_iload_n hx hb dX0_plusWeeks_6 rfl (lv_at hl 2 rfl) ?_
  refine lv_i2l (v := (p1.toInt64)) hx hb dX0_plusWeeks_7 (by first | rfl | decide) ?_
  refine lv_bipush (v := (8 : Int32)) hx hb dX0_plusWeeks_8 (by decide) ?_
  refine wcVi (as := [.int p0, .long (p1.toInt64), .int (8 : Int32)]) (rest := []) (cl := RX0) C (c_X0_goUnits l G a S p0 (p1.toInt64) (8 : Int32) h0) F_X0_goUnits rfl bw568 bw570 bw26 (hE.S hS hAB) hP hD hS hA hAB (va_recv hE.K hP (ci := 2) (q0 := 0) rfl rfl) hl.1 dX0_plusWeeks_10 ⟨Nat.le_of_ble_eq_true rfl, Nat.le_of_ble_eq_true rfl⟩ rfl (Nat.le_of_ble_eq_true rfl) ⟨Nat.le_of_ble_eq_true rfl, Nat.le_of_ble_eq_true rfl⟩ (fun H locs hP hD hS => ?_)
  exact we_i (wf := wX G a) hx hb hr hk hP hD hS (Nat.le_of_ble_eq_true rfl) (Nat.le_of_ble_eq_true rfl) dX0_plusWeeks_13 rfl

set_option maxRecDepth 100000 in
set_option maxHeartbeats 4000000 in
theorem c_X0_minusWeeks (l : Launch) (G : GT) (a : Nat → Nat) (S : SX) (p0 : Int32) (p1 : Int32) (h0 : vp_in p0 6) : WR l G yX0_minusWeeks cX0_minusWeeks 3 (some .int) 8 0 0 [.ref (a 0), .int p0, .int p1] (wX G a S) (wX G a (gX0_minusWeeks S p0 p1).2) (some (.int (gX0_minusWeeks S p0 p1).1)) := by
  refine WR.ofW (own := RX0) rfl (by decide +kernel) (Nat.le_of_ble_eq_true rfl) ?_
  intro p e s m below meth c A C hr hk hnm hE hP hD hA hAB hS ls hl
  have hx := C.1
  have hb := C.2.1
  have hown := C.2.2.2.1
  have hw := C.2.2.2.2
  have hl : lv_has ls 3 [(0, .ref (a 0)), (1, .int p0), (2, .int p1)] := hl
  refine lv_iload_n hx hb dX0_minusWeeks_0 rfl (lv_at hl 1 rfl) ?_
  refine rcSv (as := [.int p0]) (rest := []) C (c_X0_checkMoment l G p0 h0) F_X0_checkMoment rfl bw387 bw388 (hE.S hS hAB) vpn hl.1 dX0_minusWeeks_1 ⟨Nat.le_of_ble_eq_true rfl, Nat.le_of_ble_eq_true rfl⟩ rfl (Nat.le_of_ble_eq_true rfl) ⟨Nat.le_of_ble_eq_true rfl, Nat.le_of_ble_eq_true rfl⟩ ?_
  refine lv_aload_n hx hb dX0_minusWeeks_4 rfl (lv_at hl 0 rfl) ?_
  refine lv_iload_n hx hb dX0_minusWeeks_5 rfl (lv_at hl 1 rfl) ?_
  refine lv_iload_n hx hb dX0_minusWeeks_6 rfl (lv_at hl 2 rfl) ?_
  refine lv_i2l (v := (p1.toInt64)) hx hb dX0_minusWeeks_7 (by first | rfl | decide) ?_
  refine lv_lneg hx hb dX0_minusWeeks_8 ?_
  refine lv_bipush (v := (8 : Int32)) hx hb dX0_minusWeeks_9 (by decide) ?_
  refine wcVi (as := [.int p0, .long (-(p1.toInt64)), .int (8 : Int32)]) (rest := []) (cl := RX0) C (c_X0_goUnits l G a S p0 (-(p1.toInt64)) (8 : Int32) h0) F_X0_goUnits rfl bw568 bw570 bw26 (hE.S hS hAB) hP hD hS hA hAB (va_recv hE.K hP (ci := 2) (q0 := 0) rfl rfl) hl.1 dX0_minusWeeks_11 ⟨Nat.le_of_ble_eq_true rfl, Nat.le_of_ble_eq_true rfl⟩ rfl (Nat.le_of_ble_eq_true rfl) ⟨Nat.le_of_ble_eq_true rfl, Nat.le_of_ble_eq_true rfl⟩ (fun H locs hP hD hS => ?_)
  exact we_i (wf := wX G a) hx hb hr hk hP hD hS (Nat.le_of_ble_eq_true rfl) (Nat.le_of_ble_eq_true rfl) dX0_minusWeeks_14 rfl

set_option maxRecDepth 100000 in
set_option maxHeartbeats 4000000 in
theorem c_X0_plusDays (l : Launch) (G : GT) (a : Nat → Nat) (S : SX) (p0 : Int32) (p1 : Int32) (h0 : vp_in p0 6) : WR l G yX0_plusDays cX0_plusDays 3 (some .int) 8 0 0 [.ref (a 0), .int p0, .int p1] (wX G a S) (wX G a (gX0_plusDays S p0 p1).2) (some (.int (gX0_plusDays S p0 p1).1)) := by
  refine WR.ofW (own := RX0) rfl (by decide +kernel) (Nat.le_of_ble_eq_true rfl) ?_
  intro p e s m below meth c A C hr hk hnm hE hP hD hA hAB hS ls hl
  have hx := C.1
  have hb := C.2.1
  have hown := C.2.2.2.1
  have hw := C.2.2.2.2
  have hl : lv_has ls 3 [(0, .ref (a 0)), (1, .int p0), (2, .int p1)] := hl
  refine lv_iload_n hx hb dX0_plusDays_0 rfl (lv_at hl 1 rfl) ?_
  refine rcSv (as := [.int p0]) (rest := []) C (c_X0_checkMoment l G p0 h0) F_X0_checkMoment rfl bw387 bw388 (hE.S hS hAB) vpn hl.1 dX0_plusDays_1 ⟨Nat.le_of_ble_eq_true rfl, Nat.le_of_ble_eq_true rfl⟩ rfl (Nat.le_of_ble_eq_true rfl) ⟨Nat.le_of_ble_eq_true rfl, Nat.le_of_ble_eq_true rfl⟩ ?_
  refine lv_aload_n hx hb dX0_plusDays_4 rfl (lv_at hl 0 rfl) ?_
  refine lv_iload_n hx hb dX0_plusDays_5 rfl (lv_at hl 1 rfl) ?_
  refine lv_iload_n hx hb dX0_plusDays_6 rfl (lv_at hl 2 rfl) ?_
  refine lv_i2l (v := (p1.toInt64)) hx hb dX0_plusDays_7 (by first | rfl | decide) ?_
  refine lv_bipush (v := (7 : Int32)) hx hb dX0_plusDays_8 (by decide) ?_
  refine wcVi (as := [.int p0, .long (p1.toInt64), .int (7 : Int32)]) (rest := []) (cl := RX0) C (c_X0_goUnits l G a S p0 (p1.toInt64) (7 : Int32) h0) F_X0_goUnits rfl bw568 bw570 bw26 (hE.S hS hAB) hP hD hS hA hAB (va_recv hE.K hP (ci := 2) (q0 := 0) rfl rfl) hl.1 dX0_plusDays_10 ⟨Nat.le_of_ble_eq_true rfl, Nat.le_of_ble_eq_true rfl⟩ rfl (Nat.le_of_ble_eq_true rfl) ⟨Nat.le_of_ble_eq_true rfl, Nat.le_of_ble_eq_true rfl⟩ (fun H locs hP hD hS => ?_)
  exact we_i (wf := wX G a) hx hb hr hk hP hD hS (Nat.le_of_ble_eq_true rfl) (Nat.le_of_ble_eq_true rfl) dX0_plusDays_13 rfl

set_option maxRecDepth 100000 in
set_option maxHeartbeats 4000000 in
theorem c_X0_minusDays (l : Launch) (G : GT) (a : Nat → Nat) (S : SX) (p0 : Int32) (p1 : Int32) (h0 : vp_in p0 6) : WR l G yX0_minusDays cX0_minusDays 3 (some .int) 8 0 0 [.ref (a 0), .int p0, .int p1] (wX G a S) (wX G a (gX0_minusDays S p0 p1).2) (some (.int (gX0_minusDays S p0 p1).1)) := by
  refine WR.ofW (own := RX0) rfl (by decide +kernel) (Nat.le_of_ble_eq_true rfl) ?_
  intro p e s m below meth c A C hr hk hnm hE hP hD hA hAB hS ls hl
  have hx := C.1
  have hb := C.2.1
  have hown := C.2.2.2.1
  have hw := C.2.2.2.2
  have hl : lv_has ls 3 [(0, .ref (a 0)), (1, .int p0), (2, .int p1)] := hl
  refine lv_iload_n hx hb dX0_minusDays_0 rfl (lv_at hl 1 rfl) ?_
  refine rcSv (as := [.int p0]) (rest := []) C (c_X0_checkMoment l G p0 h0) F_X0_checkMoment rfl bw387 bw388 (hE.S hS hAB) vpn hl.1 dX0_minusDays_1 ⟨Nat.le_of_ble_eq_true rfl, Nat.le_of_ble_eq_true rfl⟩ rfl (Nat.le_of_ble_eq_true rfl) ⟨Nat.le_of_ble_eq_true rfl, Nat.le_of_ble_eq_true rfl⟩ ?_
  refine lv_aload_n hx hb dX0_minusDays_4 rfl (lv_at hl 0 rfl) ?_
  refine lv_iload_n hx hb dX0_minusDays_5 rfl (lv_at hl 1 rfl) ?_
  refine lv_iload_n hx hb dX0_minusDays_6 rfl (lv_at hl 2 rfl) ?_
  refine lv_i2l (v := (p1.toInt64)) hx hb dX0_minusDays_7 (by first | rfl | decide) ?_
  refine lv_lneg hx hb dX0_minusDays_8 ?_
  refine lv_bipush (v := (7 : Int32)) hx hb dX0_minusDays_9 (by decide) ?_
  refine wcVi (as := [.int p0, .long (-(p1.toInt64)), .int (7 : Int32)]) (rest := []) (cl := RX0) C (c_X0_goUnits l G a S p0 (-(p1.toInt64)) (7 : Int32) h0) F_X0_goUnits rfl bw568 bw570 bw26 (hE.S hS hAB) hP hD hS hA hAB (va_recv hE.K hP (ci := 2) (q0 := 0) rfl rfl) hl.1 dX0_minusDays_11 ⟨Nat.le_of_ble_eq_true rfl, Nat.le_of_ble_eq_true rfl⟩ rfl (Nat.le_of_ble_eq_true rfl) ⟨Nat.le_of_ble_eq_true rfl, Nat.le_of_ble_eq_true rfl⟩ (fun H locs hP hD hS => ?_)
  exact we_i (wf := wX G a) hx hb hr hk hP hD hS (Nat.le_of_ble_eq_true rfl) (Nat.le_of_ble_eq_true rfl) dX0_minusDays_14 rfl

set_option maxRecDepth 100000 in
set_option maxHeartbeats 4000000 in
theorem c_X0_plusHours (l : Launch) (G : GT) (a : Nat → Nat) (S : SX) (p0 : Int32) (p1 : Int32) (h0 : vp_in p0 6) : WR l G yX0_plusHours cX0_plusHours 3 (some .int) 8 0 0 [.ref (a 0), .int p0, .int p1] (wX G a S) (wX G a (gX0_plusHours S p0 p1).2) (some (.int (gX0_plusHours S p0 p1).1)) := by
  refine WR.ofW (own := RX0) rfl (by decide +kernel) (Nat.le_of_ble_eq_true rfl) ?_
  intro p e s m below meth c A C hr hk hnm hE hP hD hA hAB hS ls hl
  have hx := C.1
  have hb := C.2.1
  have hown := C.2.2.2.1
  have hw := C.2.2.2.2
  have hl : lv_has ls 3 [(0, .ref (a 0)), (1, .int p0), (2, .int p1)] := hl
  refine lv_iload_n hx hb dX0_plusHours_0 rfl (lv_at hl 1 rfl) ?_
  refine rcSv (as := [.int p0]) (rest := []) C (c_X0_checkMoment l G p0 h0) F_X0_checkMoment rfl bw387 bw388 (hE.S hS hAB) vpn hl.1 dX0_plusHours_1 ⟨Nat.le_of_ble_eq_true rfl, Nat.le_of_ble_eq_true rfl⟩ rfl (Nat.le_of_ble_eq_true rfl) ⟨Nat.le_of_ble_eq_true rfl, Nat.le_of_ble_eq_true rfl⟩ ?_
  refine lv_aload_n hx hb dX0_plusHours_4 rfl (lv_at hl 0 rfl) ?_
  refine lv_iload_n hx hb dX0_plusHours_5 rfl (lv_at hl 1 rfl) ?_
  refine lv_iload_n hx hb dX0_plusHours_6 rfl (lv_at hl 2 rfl) ?_
  refine lv_i2l (v := (p1.toInt64)) hx hb dX0_plusHours_7 (by first | rfl | decide) ?_
  refine lv_iconst (v := (5 : Int32)) hx hb dX0_plusHours_8 (by decide) ?_
  refine wcVi (as := [.int p0, .long (p1.toInt64), .int (5 : Int32)]) (rest := []) (cl := RX0) C (c_X0_goUnits l G a S p0 (p1.toInt64) (5 : Int32) h0) F_X0_goUnits rfl bw568 bw570 bw26 (hE.S hS hAB) hP hD hS hA hAB (va_recv hE.K hP (ci := 2) (q0 := 0) rfl rfl) hl.1 dX0_plusHours_9 ⟨Nat.le_of_ble_eq_true rfl, Nat.le_of_ble_eq_true rfl⟩ rfl (Nat.le_of_ble_eq_true rfl) ⟨Nat.le_of_ble_eq_true rfl, Nat.le_of_ble_eq_true rfl⟩ (fun H locs hP hD hS => ?_)
  exact we_i (wf := wX G a) hx hb hr hk hP hD hS (Nat.le_of_ble_eq_true rfl) (Nat.le_of_ble_eq_true rfl) dX0_plusHours_12 rfl

set_option maxRecDepth 100000 in
set_option maxHeartbeats 4000000 in
theorem c_X0_minusHours (l : Launch) (G : GT) (a : Nat → Nat) (S : SX) (p0 : Int32) (p1 : Int32) (h0 : vp_in p0 6) : WR l G yX0_minusHours cX0_minusHours 3 (some .int) 8 0 0 [.ref (a 0), .int p0, .int p1] (wX G a S) (wX G a (gX0_minusHours S p0 p1).2) (some (.int (gX0_minusHours S p0 p1).1)) := by
  refine WR.ofW (own := RX0) rfl (by decide +kernel) (Nat.le_of_ble_eq_true rfl) ?_
  intro p e s m below meth c A C hr hk hnm hE hP hD hA hAB hS ls hl
  have hx := C.1
  have hb := C.2.1
  have hown := C.2.2.2.1
  have hw := C.2.2.2.2
  have hl : lv_has ls 3 [(0, .ref (a 0)), (1, .int p0), (2, .int p1)] := hl
  refine lv_iload_n hx hb dX0_minusHours_0 rfl (lv_at hl 1 rfl) ?_
  refine rcSv (as := [.int p0]) (rest := []) C (c_X0_checkMoment l G p0 h0) F_X0_checkMoment rfl bw387 bw388 (hE.S hS hAB) vpn hl.1 dX0_minusHours_1 ⟨Nat.le_of_ble_eq_true rfl, Nat.le_of_ble_eq_true rfl⟩ rfl (Nat.le_of_ble_eq_true rfl) ⟨Nat.le_of_ble_eq_true rfl, Nat.le_of_ble_eq_true rfl⟩ ?_
  refine lv_aload_n hx hb dX0_minusHours_4 rfl (lv_at hl 0 rfl) ?_
  refine lv_iload_n hx hb dX0_minusHours_5 rfl (lv_at hl 1 rfl) ?_
  refine lv_iload_n hx hb dX0_minusHours_6 rfl (lv_at hl 2 rfl) ?_
  refine lv_i2l (v := (p1.toInt64)) hx hb dX0_minusHours_7 (by first | rfl | decide) ?_
  refine lv_lneg hx hb dX0_minusHours_8 ?_
  refine lv_iconst (v := (5 : Int32)) hx hb dX0_minusHours_9 (by decide) ?_
  refine wcVi (as := [.int p0, .long (-(p1.toInt64)), .int (5 : Int32)]) (rest := []) (cl := RX0) C (c_X0_goUnits l G a S p0 (-(p1.toInt64)) (5 : Int32) h0) F_X0_goUnits rfl bw568 bw570 bw26 (hE.S hS hAB) hP hD hS hA hAB (va_recv hE.K hP (ci := 2) (q0 := 0) rfl rfl) hl.1 dX0_minusHours_10 ⟨Nat.le_of_ble_eq_true rfl, Nat.le_of_ble_eq_true rfl⟩ rfl (Nat.le_of_ble_eq_true rfl) ⟨Nat.le_of_ble_eq_true rfl, Nat.le_of_ble_eq_true rfl⟩ (fun H locs hP hD hS => ?_)
  exact we_i (wf := wX G a) hx hb hr hk hP hD hS (Nat.le_of_ble_eq_true rfl) (Nat.le_of_ble_eq_true rfl) dX0_minusHours_13 rfl

set_option maxRecDepth 100000 in
set_option maxHeartbeats 4000000 in
theorem c_X0_plusMinutes (l : Launch) (G : GT) (a : Nat → Nat) (S : SX) (p0 : Int32) (p1 : Int32) (h0 : vp_in p0 6) : WR l G yX0_plusMinutes cX0_plusMinutes 3 (some .int) 8 0 0 [.ref (a 0), .int p0, .int p1] (wX G a S) (wX G a (gX0_plusMinutes S p0 p1).2) (some (.int (gX0_plusMinutes S p0 p1).1)) := by
  refine WR.ofW (own := RX0) rfl (by decide +kernel) (Nat.le_of_ble_eq_true rfl) ?_
  intro p e s m below meth c A C hr hk hnm hE hP hD hA hAB hS ls hl
  have hx := C.1
  have hb := C.2.1
  have hown := C.2.2.2.1
  have hw := C.2.2.2.2
  have hl : lv_has ls 3 [(0, .ref (a 0)), (1, .int p0), (2, .int p1)] := hl
  refine lv_iload_n hx hb dX0_plusMinutes_0 rfl (lv_at hl 1 rfl) ?_
  refine rcSv (as := [.int p0]) (rest := []) C (c_X0_checkMoment l G p0 h0) F_X0_checkMoment rfl bw387 bw388 (hE.S hS hAB) vpn hl.1 dX0_plusMinutes_1 ⟨Nat.le_of_ble_eq_true rfl, Nat.le_of_ble_eq_true rfl⟩ rfl (Nat.le_of_ble_eq_true rfl) ⟨Nat.le_of_ble_eq_true rfl, Nat.le_of_ble_eq_true rfl⟩ ?_
  refine lv_aload_n hx hb dX0_plusMinutes_4 rfl (lv_at hl 0 rfl) ?_
  refine lv_iload_n hx hb dX0_plusMinutes_5 rfl (lv_at hl 1 rfl) ?_
  refine lv_iload_n hx hb dX0_plusMinutes_6 rfl (lv_at hl 2 rfl) ?_
  refine lv_i2l (v := (p1.toInt64)) hx hb dX0_plusMinutes_7 (by first | rfl | decide) ?_
  refine lv_iconst (v := (4 : Int32)) hx hb dX0_plusMinutes_8 (by decide) ?_
  refine wcVi (as := [.int p0, .long (p1.toInt64), .int (4 : Int32)]) (rest := []) (cl := RX0) C (c_X0_goUnits l G a S p0 (p1.toInt64) (4 : Int32) h0) F_X0_goUnits rfl bw568 bw570 bw26 (hE.S hS hAB) hP hD hS hA hAB (va_recv hE.K hP (ci := 2) (q0 := 0) rfl rfl) hl.1 dX0_plusMinutes_9 ⟨Nat.le_of_ble_eq_true rfl, Nat.le_of_ble_eq_true rfl⟩ rfl (Nat.le_of_ble_eq_true rfl) ⟨Nat.le_of_ble_eq_true rfl, Nat.le_of_ble_eq_true rfl⟩ (fun H locs hP hD hS => ?_)
  exact we_i (wf := wX G a) hx hb hr hk hP hD hS (Nat.le_of_ble_eq_true rfl) (Nat.le_of_ble_eq_true rfl) dX0_plusMinutes_12 rfl

set_option maxRecDepth 100000 in
set_option maxHeartbeats 4000000 in
theorem c_X0_minusMinutes (l : Launch) (G : GT) (a : Nat → Nat) (S : SX) (p0 : Int32) (p1 : Int32) (h0 : vp_in p0 6) : WR l G yX0_minusMinutes cX0_minusMinutes 3 (some .int) 8 0 0 [.ref (a 0), .int p0, .int p1] (wX G a S) (wX G a (gX0_minusMinutes S p0 p1).2) (some (.int (gX0_minusMinutes S p0 p1).1)) := by
  refine WR.ofW (own := RX0) rfl (by decide +kernel) (Nat.le_of_ble_eq_true rfl) ?_
  intro p e s m below meth c A C hr hk hnm hE hP hD hA hAB hS ls hl
  have hx := C.1
  have hb := C.2.1
  have hown := C.2.2.2.1
  have hw := C.2.2.2.2
  have hl : lv_has ls 3 [(0, .ref (a 0)), (1, .int p0), (2, .int p1)] := hl
  refine lv_iload_n hx hb dX0_minusMinutes_0 rfl (lv_at hl 1 rfl) ?_
  refine rcSv (as := [.int p0]) (rest := []) C (c_X0_checkMoment l G p0 h0) F_X0_checkMoment rfl bw387 bw388 (hE.S hS hAB) vpn hl.1 dX0_minusMinutes_1 ⟨Nat.le_of_ble_eq_true rfl, Nat.le_of_ble_eq_true rfl⟩ rfl (Nat.le_of_ble_eq_true rfl) ⟨Nat.le_of_ble_eq_true rfl, Nat.le_of_ble_eq_true rfl⟩ ?_
  refine lv_aload_n hx hb dX0_minusMinutes_4 rfl (lv_at hl 0 rfl) ?_
  refine lv_iload_n hx hb dX0_minusMinutes_5 rfl (lv_at hl 1 rfl) ?_
  refine lv_iload_n hx hb dX0_minusMinutes_6 rfl (lv_at hl 2 rfl) ?_
  refine lv_i2l (v := (p1.toInt64)) hx hb dX0_minusMinutes_7 (by first | rfl | decide) ?_
  refine lv_lneg hx hb dX0_minusMinutes_8 ?_
  refine lv_iconst (v := (4 : Int32)) hx hb dX0_minusMinutes_9 (by decide) ?_
  refine wcVi (as := [.int p0, .long (-(p1.toInt64)), .int (4 : Int32)]) (rest := []) (cl := RX0) C (c_X0_goUnits l G a S p0 (-(p1.toInt64)) (4 : Int32) h0) F_X0_goUnits rfl bw568 bw570 bw26 (hE.S hS hAB) hP hD hS hA hAB (va_recv hE.K hP (ci := 2) (q0 := 0) rfl rfl) hl.1 dX0_minusMinutes_10 ⟨Nat.le_of_ble_eq_true rfl, Nat.le_of_ble_eq_true rfl⟩ rfl (Nat.le_of_ble_eq_true rfl) ⟨Nat.le_of_ble_eq_true rfl, Nat.le_of_ble_eq_true rfl⟩ (fun H locs hP hD hS => ?_)
  exact we_i (wf := wX G a) hx hb hr hk hP hD hS (Nat.le_of_ble_eq_true rfl) (Nat.le_of_ble_eq_true rfl) dX0_minusMinutes_13 rfl

