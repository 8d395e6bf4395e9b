set_option maxRecDepth 100000 in
set_option maxHeartbeats 4000000 in
theorem hG_minusHours (l : Launch) (hl9 : l.stackTraces = false) (G : GT) (a : Nat → Nat) (o : Nat) (n : Int64) (sv : Value) (S : SX) (p0 : Int32) (p1 : Int32) (h0 : vp_in p0 6) : HE l G yL_minusHours cL_minusHours 5 [(0, 11, 14, 25)] 10 0 0 [.ref (a 0), .int p0, .int p1, .ref o] (wH G a o n sv S) (wH G a o ((gX0_minusHours S p0 p1).1.toInt64) sv ((gX0_minusHours S p0 p1).2)) (0 : Int32) := by
  refine HE.ofW (own := RL) rfl (by decide +kernel) (Nat.le_of_ble_eq_true rfl) ?_
  intro p e s m below meth c A C hr hk hT hN hE hP hD hA hAB hS ls hl
  have hx := C.1
  have hb := C.2.1
  have hown := C.2.2.2.1
  have hw := C.2.2.2.2
  have hl : lv_has ls 5 [(0, .ref (a 0)), (1, .int p0), (2, .int p1), (3, .ref o)] := hl
  have hPX : va_P (gD G) vwCl (wX G a S) s.heap := P_tail hP
  refine lv_aload_n hx hb dL_minusHours_0 rfl (lv_at hl 3 rfl) ?_
  refine lv_aload_n hx hb dL_minusHours_1 rfl (lv_at hl 0 rfl) ?_
  refine lv_iload_n hx hb dL_minusHours_2 rfl (lv_at hl 1 rfl) ?_
  refine lv_iload_n hx hb dL_minusHours_3 rfl (lv_at hl 2 rfl) ?_
  refine wcV1 (as := [.int p0, .int p1]) (rest := [.ref o]) (cl := RX0) C (c_X0_minusHours l G a S p0 p1 h0) F_X0_minusHours rfl bw636 bw637 bw638 hE hP hD hS hA hAB (va_recv hE.K hPX (ci := 2) (q0 := 0) rfl rfl) hl.1 dL_minusHours_4 ⟨Nat.le_of_ble_eq_true rfl, Nat.le_of_ble_eq_true rfl⟩ rfl (Nat.le_of_ble_eq_true rfl) ⟨Nat.le_of_ble_eq_true rfl, Nat.le_of_ble_eq_true rfl⟩ (fun H locs hP hD hS => ?_)
  refine lv_i2l (v := (((gX0_minusHours S p0 p1).1).toInt64)) hx hb dL_minusHours_7 (by first | rfl | decide) ?_
  refine va_putN (D := gD G) (cl := vwCl) (tys := gT G) (ci := 3) (v := .long (((gX0_minusHours S p0 p1).1).toInt64)) (ty := .long) (C := RX1) (T := TX1) (N := 2) hx hb hw inB_X1 tyX1 tyX1_ok nmX1 hown hE.K hP hD hS 0 rfl rfl 0 (by decide) (va_Nw.use rfl hN.2.1) (fun _ h9 => h9) rfl (by decide +kernel) rfl rfl (Nat.le_of_ble_eq_true rfl) dL_minusHours_8 (fun H locs hP hD hS => ?_)
  refine lv_goto (tgt := 18) hx hb dL_minusHours_11 (by decide) ?_
  refine lv_iconst (v := (0 : Int32)) hx hb dL_minusHours_18 (by decide) ?_
  exact we_h hx hb hr hk hP hD hS (Nat.le_of_ble_eq_true rfl) (Nat.le_of_ble_eq_true rfl) dL_minusHours_19

set_option maxRecDepth 100000 in
set_option maxHeartbeats 4000000 in
theorem hI_plusMinutes (l : Launch) (hl9 : l.stackTraces = false) (G : GT) (a : Nat → Nat) (o : Nat) (n : Int64) (sv : Value) (S : SX) (p0 : Int32) (p1 : Int32) (hbad : ¬ (vp_in p0 6)) : HE l G yL_plusMinutes cL_plusMinutes 5 [(0, 11, 14, 25)] 10 1 6 [.ref (a 0), .int p0, .int p1, .ref o] (wH G a o n sv S) (wH G a o n sv S) (1 : Int32) := by
  refine HE.ofW (own := RL) rfl (by decide +kernel) (Nat.le_of_ble_eq_true rfl) ?_
  intro p e s m below meth c A C hr hk hT hN hE hP hD hA hAB hS ls hl
  have hx := C.1
  have hb := C.2.1
  have hown := C.2.2.2.1
  have hw := C.2.2.2.2
  have hl : lv_has ls 5 [(0, .ref (a 0)), (1, .int p0), (2, .int p1), (3, .ref o)] := hl
  have hPX : va_P (gD G) vwCl (wX G a S) s.heap := P_tail hP
  refine lv_aload_n hx hb dL_plusMinutes_0 rfl (lv_at hl 3 rfl) ?_
  refine lv_aload_n hx hb dL_plusMinutes_1 rfl (lv_at hl 0 rfl) ?_
  refine lv_iload_n hx hb dL_plusMinutes_2 rfl (lv_at hl 1 rfl) ?_
  refine lv_iload_n hx hb dL_plusMinutes_3 rfl (lv_at hl 2 rfl) ?_
  refine thV (as := [.int p0, .int p1]) (rest := [.ref o]) (cl := RX0) C (tI_X0_plusMinutes l hl9 G a p0 p1 hbad) F_X0_plusMinutes rfl bw593 bw594 bw595 hE hS hA (va_recv hE.K hPX (ci := 2) (q0 := 0) rfl rfl) hl.1 dL_plusMinutes_4 ⟨Nat.le_of_ble_eq_true rfl, Nat.le_of_ble_eq_true rfl⟩ rfl (Nat.le_of_ble_eq_true rfl) ⟨Nat.le_of_ble_eq_true rfl, Nat.le_of_ble_eq_true rfl⟩ (fun q9 ce H1 locs1 hz ho hS1 hce hcv hcl => ?_)
  refine vx_catch hown [] ⟨0, 11, 14, 25⟩ [] (hT.trans rfl) (fun z hz => nomatch hz) (by decide) (by decide) (hw _ bw382) (castXX (hw _ bw391)) hce hcv hcl ?_
  refine lv_astore (lv' := [(4, .ref q9), (0, .ref (a 0)), (1, .int p0), (2, .int p1), (3, .ref o)]) hx hb dL_plusMinutes_14 hl (Nat.le_of_ble_eq_true rfl) rfl (fun ls hl => ?_)
  refine lv_iconst (v := (1 : Int32)) hx hb dL_plusMinutes_16 (by decide) ?_
  exact we_h hx hb hr hk (P_old hP ho) hD hS1 (Nat.le_of_ble_eq_true rfl) (Nat.le_of_ble_eq_true rfl) dL_plusMinutes_17

set_option maxRecDepth 100000 in
set_option maxHeartbeats 4000000 in
theorem hG_plusMinutes (l : Launch) (hl9 : l.stackTraces = false) (G : GT) (a : Nat → Nat) (o : Nat) (n : Int64) (sv : Value) (S : SX) (p0 : Int32) (p1 : Int32) (h0 : vp_in p0 6) : HE l G yL_plusMinutes cL_plusMinutes 5 [(0, 11, 14, 25)] 10 0 0 [.ref (a 0), .int p0, .int p1, .ref o] (wH G a o n sv S) (wH G a o ((gX0_plusMinutes S p0 p1).1.toInt64) sv ((gX0_plusMinutes S p0 p1).2)) (0 : Int32) := by
  refine HE.ofW (own := RL) rfl (by decide +kernel) (Nat.le_of_ble_eq_true rfl) ?_
  intro p e s m below meth c A C hr hk hT hN hE hP hD hA hAB hS ls hl
  have hx := C.1
  have hb := C.2.1
  have hown := C.2.2.2.1
  have hw := C.2.2.2.2
  have hl : lv_has ls 5 [(0, .ref (a 0)), (1, .int p0), (2, .int p1), (3, .ref o)] := hl
  have hPX : va_P (gD G) vwCl (wX G a S) s.heap := P_tail hP
  refine lv_aload_n hx hb dL_plusMinutes_0 rfl (lv_at hl 3 rfl) ?_
  refine lv_aload_n hx hb dL_plusMinutes_1 rfl (lv_at hl 0 rfl) ?_
  refine lv_iload_n hx hb dL_plusMinutes_2 rfl (lv_at hl 1 rfl) ?_
  refine lv_iload_n hx hb dL_plusMinutes_3 rfl (lv_at hl 2 rfl) ?_
  refine wcV1 (as := [.int p0, .int p1]) (rest := [.ref o]) (cl := RX0) C (c_X0_plusMinutes l G a S p0 p1 h0) F_X0_plusMinutes rfl bw593 bw594 bw595 hE hP hD hS hA hAB (va_recv hE.K hPX (ci := 2) (q0 := 0) rfl rfl) hl.1 dL_plusMinutes_4 ⟨Nat.le_of_ble_eq_true rfl, Nat.le_of_ble_eq_true rfl⟩ rfl (Nat.le_of_ble_eq_true rfl) ⟨Nat.le_of_ble_eq_true rfl, Nat.le_of_ble_eq_true rfl⟩ (fun H locs hP hD hS => ?_)
  refine lv_i2l (v := (((gX0_plusMinutes S p0 p1).1).toInt64)) hx hb dL_plusMinutes_7 (by first | rfl | decide) ?_
  refine va_putN (D := gD G) (cl := vwCl) (tys := gT G) (ci := 3) (v := .long (((gX0_plusMinutes S p0 p1).1).toInt64)) (ty := .long) (C := RX1) (T := TX1) (N := 2) hx hb hw inB_X1 tyX1 tyX1_ok nmX1 hown hE.K hP hD hS 0 rfl rfl 0 (by decide) (va_Nw.use rfl hN.2.1) (fun _ h9 => h9) rfl (by decide +kernel) rfl rfl (Nat.le_of_ble_eq_true rfl) dL_plusMinutes_8 (fun H locs hP hD hS => ?_)
  refine lv_goto (tgt := 18) hx hb dL_plusMinutes_11 (by decide) ?_
  refine lv_iconst (v := (0 : Int32)) hx hb dL_plusMinutes_18 (by decide) ?_
  exact we_h hx hb hr hk hP hD hS (Nat.le_of_ble_eq_true rfl) (Nat.le_of_ble_eq_true rfl) dL_plusMinutes_19

set_option maxRecDepth 100000 in
set_option maxHeartbeats 4000000 in
theorem hI_minusMinutes (l : Launch) (hl9 : l.stackTraces = false) (G : GT) (a : Nat → Nat) (o : Nat) (n : Int64) (sv : Value) (S : SX) (p0 : Int32) (p1 : Int32) (hbad : ¬ (vp_in p0 6)) : HE l G yL_minusMinutes cL_minusMinutes 5 [(0, 11, 14, 25)] 10 1 6 [.ref (a 0), .int p0, .int p1, .ref o] (wH G a o n sv S) (wH G a o n sv S) (1 : Int32) := by
  refine HE.ofW (own := RL) rfl (by decide +kernel) (Nat.le_of_ble_eq_true rfl) ?_
  intro p e s m below meth c A C hr hk hT hN hE hP hD hA hAB hS ls hl
  have hx := C.1
  have hb := C.2.1
  have hown := C.2.2.2.1
  have hw := C.2.2.2.2
  have hl : lv_has ls 5 [(0, .ref (a 0)), (1, .int p0), (2, .int p1), (3, .ref o)] := hl
  have hPX : va_P (gD G) vwCl (wX G a S) s.heap := P_tail hP
  refine lv_aload_n hx hb dL_minusMinutes_0 rfl (lv_at hl 3 rfl) ?_
  refine lv_aload_n hx hb dL_minusMinutes_1 rfl (lv_at hl 0 rfl) ?_
  refine lv_iload_n hx hb dL_minusMinutes_2 rfl (lv_at hl 1 rfl) ?_
  refine lv_iload_n hx hb dL_minusMinutes_3 rfl (lv_at hl 2 rfl) ?_
  refine thV (as := [.int p0, .int p1]) (rest := [.ref o]) (cl := RX0) C (tI_X0_minusMinutes l hl9 G a p0 p1 hbad) F_X0_minusMinutes rfl bw643 bw644 bw645 hE hS hA (va_recv hE.K hPX (ci := 2) (q0 := 0) rfl rfl) hl.1 dL_minusMinutes_4 ⟨Nat.le_of_ble_eq_true rfl, Nat.le_of_ble_eq_true rfl⟩ rfl (Nat.le_of_ble_eq_true rfl) ⟨Nat.le_of_ble_eq_true rfl, Nat.le_of_ble_eq_true rfl⟩ (fun q9 ce H1 locs1 hz ho hS1 hce hcv hcl => ?_)
  refine vx_catch hown [] ⟨0, 11, 14, 25⟩ [] (hT.trans rfl) (fun z hz => nomatch hz) (by decide) (by decide) (hw _ bw382) (castXX (hw _ bw391)) hce hcv hcl ?_
  refine lv_astore (lv' := [(4, .ref q9), (0, .ref (a 0)), (1, .int p0), (2, .int p1), (3, .ref o)]) hx hb dL_minusMinutes_14 hl (Nat.le_of_ble_eq_true rfl) rfl (fun ls hl => ?_)
  refine lv_iconst (v := (1 : Int32)) hx hb dL_minusMinutes_16 (by decide) ?_
  exact we_h hx hb hr hk (P_old hP ho) hD hS1 (Nat.le_of_ble_eq_true rfl) (Nat.le_of_ble_eq_true rfl) dL_minusMinutes_17

set_option maxRecDepth 100000 in
set_option maxHeartbeats 4000000 in
theorem hG_minusMinutes (l : Launch) (hl9 : l.stackTraces = false) (G : GT) (a : Nat → Nat) (o : Nat) (n : Int64) (sv : Value) (S : SX) (p0 : Int32) (p1 : Int32) (h0 : vp_in p0 6) : HE l G yL_minusMinutes cL_minusMinutes 5 [(0, 11, 14, 25)] 10 0 0 [.ref (a 0), .int p0, .int p1, .ref o] (wH G a o n sv S) (wH G a o ((gX0_minusMinutes S p0 p1).1.toInt64) sv ((gX0_minusMinutes S p0 p1).2)) (0 : Int32) := by
  refine HE.ofW (own := RL) rfl (by decide +kernel) (Nat.le_of_ble_eq_true rfl) ?_
  intro p e s m below meth c A C hr hk hT hN hE hP hD hA hAB hS ls hl
  have hx := C.1
  have hb := C.2.1
  have hown := C.2.2.2.1
  have hw := C.2.2.2.2
  have hl : lv_has ls 5 [(0, .ref (a 0)), (1, .int p0), (2, .int p1), (3, .ref o)] := hl
  have hPX : va_P (gD G) vwCl (wX G a S) s.heap := P_tail hP
  refine lv_aload_n hx hb dL_minusMinutes_0 rfl (lv_at hl 3 rfl) ?_
  refine lv_aload_n hx hb dL_minusMinutes_1 rfl (lv_at hl 0 rfl) ?_
  refine lv_iload_n hx hb dL_minusMinutes_2 rfl (lv_at hl 1 rfl) ?_
  refine lv_iload_n hx hb dL_minusMinutes_3 rfl (lv_at hl 2 rfl) ?_
  refine wcV1 (as := [.int p0, .int p1]) (rest := [.ref o]) (cl := RX0) C (c_X0_minusMinutes l G a S p0 p1 h0) F_X0_minusMinutes rfl bw643 bw644 bw645 hE hP hD hS hA hAB (va_recv hE.K hPX (ci := 2) (q0 := 0) rfl rfl) hl.1 dL_minusMinutes_4 ⟨Nat.le_of_ble_eq_true rfl, Nat.le_of_ble_eq_true rfl⟩ rfl (Nat.le_of_ble_eq_true rfl) ⟨Nat.le_of_ble_eq_true rfl, Nat.le_of_ble_eq_true rfl⟩ (fun H locs hP hD hS => ?_)
  refine lv_i2l (v := (((gX0_minusMinutes S p0 p1).1).toInt64)) hx hb dL_minusMinutes_7 (by first | rfl | decide) ?_
  refine va_putN (D := gD G) (cl := vwCl) (tys := gT G) (ci := 3) (v := .long (((gX0_minusMinutes S p0 p1).1).toInt64)) (ty := .long) (C := RX1) (T := TX1) (N := 2) hx hb hw inB_X1 tyX1 tyX1_ok nmX1 hown hE.K hP hD hS 0 rfl rfl 0 (by decide) (va_Nw.use rfl hN.2.1) (fun _ h9 => h9) rfl (by decide +kernel) rfl rfl (Nat.le_of_ble_eq_true rfl) dL_minusMinutes_8 (fun H locs hP hD hS => ?_)
  refine lv_goto (tgt := 18) hx hb dL_minusMinutes_11 (by decide) ?_
  refine lv_iconst (v := (0 : Int32)) hx hb dL_minusMinutes_18 (by decide) ?_
  exact we_h hx hb hr hk hP hD hS (Nat.le_of_ble_eq_true rfl) (Nat.le_of_ble_eq_true rfl) dL_minusMinutes_19

set_option maxRecDepth 100000 in
set_option maxHeartbeats 4000000 in
theorem hI_plusSeconds (l : Launch) (hl9 : l.stackTraces = false) (G : GT) (a : Nat → Nat) (o : Nat) (n : Int64) (sv : Value) (S : SX) (p0 : Int32) (p1 : Int32) (hbad : ¬ (vp_in p0 6)) : HE l G yL_plusSeconds cL_plusSeconds 5 [(0, 11, 14, 25)] 10 1 6 [.ref (a 0), .int p0, .int p1, .ref o] (wH G a o n sv S) (wH G a o n sv S) (1 : Int32) := by
  refine HE.ofW (own := RL) rfl (by decide +kernel) (Nat.le_of_ble_eq_true rfl) ?_
  intro p e s m below meth c A C hr hk hT hN hE hP hD hA hAB hS ls hl
  have hx := C.1
  have hb := C.2.1
  have hown := C.2.2.2.1
  have hw := C.2.2.2.2
  have hl : lv_has ls 5 [(0, .ref (a 0)), (1, .int p0), (2, .int p1), (3, .ref o)] := hl
  have hPX : va_P (gD G) vwCl (wX G a S) s.heap := P_tail hP
  refine lv_aload_n hx hb dL_plusSeconds_0 rfl (lv_at hl 3 rfl) ?_
  refine lv_aload_n hx hb dL_plusSeconds_1 rfl (lv_at hl 0 rfl) ?_
  refine lv_iload_n hx hb dL_plusSeconds_2 rfl (lv_at hl 1 rfl) ?_
  refine lv_iload_n hx hb dL_plusSeconds_3 rfl (lv_at hl 2 rfl) ?_
  refine thV (as := [.int p0, .int p1]) (rest := [.ref o]) (cl := RX0) C (tI_X0_plusSeconds l hl9 G a p0 p1 hbad) F_X0_plusSeconds rfl bw600 bw601 bw602 hE hS hA (va_recv hE.K hPX (ci := 2) (q0 := 0) rfl rfl) hl.1 dL_plusSeconds_4 ⟨Nat.le_of_ble_eq_true rfl, Nat.le_of_ble_eq_true rfl⟩ rfl (Nat.le_of_ble_eq_true rfl) ⟨Nat.le_of_ble_eq_true rfl, Nat.le_of_ble_eq_true rfl⟩ (fun q9 ce H1 locs1 hz ho hS1 hce hcv hcl => ?_)
  refine vx_catch hown [] ⟨0, 11, 14, 25⟩ [] (hT.trans rfl) (fun z hz => nomatch hz) (by decide) (by decide) (hw _ bw382) (castXX (hw _ bw391)) hce hcv hcl ?_
  refine lv_astore (lv' := [(4, .ref q9), (0, .ref (a 0)), (1, .int p0), (2, .int p1), (3, .ref o)]) hx hb dL_plusSeconds_14 hl (Nat.le_of_ble_eq_true rfl) rfl (fun ls hl => ?_)
  refine lv_iconst (v := (1 : Int32)) hx hb dL_plusSeconds_16 (by decide) ?_
  exact we_h hx hb hr hk (P_old hP ho) hD hS1 (Nat.le_of_ble_eq_true rfl) (Nat.le_of_ble_eq_true rfl) dL_plusSeconds_17

set_option maxRecDepth 100000 in
set_option maxHeartbeats 4000000 in
theorem hG_plusSeconds (l : Launch) (hl9 : l.stackTraces = false) (G : GT) (a : Nat → Nat) (o : Nat) (n : Int64) (sv : Value) (S : SX) (p0 : Int32) (p1 : Int32) (h0 : vp_in p0 6) : HE l G yL_plusSeconds cL_plusSeconds 5 [(0, 11, 14, 25)] 10 0 0 [.ref (a 0), .int p0, .int p1, .ref o] (wH G a o n sv S) (wH G a o ((gX0_plusSeconds S p0 p1).1.toInt64) sv ((gX0_plusSeconds S p0 p1).2)) (0 : Int32) := by
  refine HE.ofW (own := RL) rfl (by decide +kernel) (Nat.le_of_ble_eq_true rfl) ?_
  intro p e s m below meth c A C hr hk hT hN hE hP hD hA hAB hS ls hl
  have hx := C.1
  have hb := C.2.1
  have hown := C.2.2.2.1
  have hw := C.2.2.2.2
  have hl : lv_has ls 5 [(0, .ref (a 0)), (1, .int p0), (2, .int p1), (3, .ref o)] := hl
  have hPX : va_P (gD G) vwCl (wX G a S) s.heap := P_tail hP
  refine lv_aload_n hx hb dL_plusSeconds_0 rfl (lv_at hl 3 rfl) ?_
  refine lv_aload_n hx hb dL_plusSeconds_1 rfl (lv_at hl 0 rfl) ?_
  refine lv_iload_n hx hb dL_plusSeconds_2 rfl (lv_at hl 1 rfl) ?_
  refine lv_iload_n hx hb dL_plusSeconds_3 rfl (lv_at hl 2 rfl) ?_
  refine wcV1 (as := [.int p0, .int p1]) (rest := [.ref o]) (cl := RX0) C (c_X0_plusSeconds l G a S p0 p1 h0) F_X0_plusSeconds rfl bw600 bw601 bw602 hE hP hD hS hA hAB (va_recv hE.K hPX (ci := 2) (q0 := 0) rfl rfl) hl.1 dL_plusSeconds_4 ⟨Nat.le_of_ble_eq_true rfl, Nat.le_of_ble_eq_true rfl⟩ rfl (Nat.le_of_ble_eq_true rfl) ⟨Nat.le_of_ble_eq_true rfl, Nat.le_of_ble_eq_true rfl⟩ (fun H locs hP hD hS => ?_)
  refine lv_i2l (v := (((gX0_plusSeconds S p0 p1).1).toInt64)) hx hb dL_plusSeconds_7 (by first | rfl | decide) ?_
  refine va_putN (D := gD G) (cl := vwCl) (tys := gT G) (ci := 3) (v := .long (((gX0_plusSeconds S p0 p1).1).toInt64)) (ty := .long) (C := RX1) (T := TX1) (N := 2) hx hb hw inB_X1 tyX1 tyX1_ok nmX1 hown hE.K hP hD hS 0 rfl rfl 0 (by decide) (va_Nw.use rfl hN.2.1) (fun _ h9 => h9) rfl (by decide +kernel) rfl rfl (Nat.le_of_ble_eq_true rfl) dL_plusSeconds_8 (fun H locs hP hD hS => ?_)
  refine lv_goto (tgt := 18) hx hb dL_plusSeconds_11 (by decide) ?_
  refine lv_iconst (v := (0 : Int32)) hx hb dL_plusSeconds_18 (by decide) ?_
  exact we_h hx hb hr hk hP hD hS (Nat.le_of_ble_eq_true rfl) (Nat.le_of_ble_eq_true rfl) dL_plusSeconds_19

set_option maxRecDepth 100000 in
set_option maxHeartbeats 4000000 in
theorem hI_minusSeconds (l : Launch) (hl9 : l.stackTraces = false) (G : GT) (a : Nat → Nat) (o : Nat) (n : Int64) (sv : Value) (S : SX) (p0 : Int32) (p1 : Int32) (hbad : ¬ (vp_in p0 6)) : HE l G yL_minusSeconds cL_minusSeconds 5 [(0, 11, 14, 25)] 10 1 6 [.ref (a 0), .int p0, .int p1, .ref o] (wH G a o n sv S) (wH G a o n sv S) (1 : Int32) := by
  refine HE.ofW (own := RL) rfl (by decide +kernel) (Nat.le_of_ble_eq_true rfl) ?_
  intro p e s m below meth c A C hr hk hT hN hE hP hD hA hAB hS ls hl
  have hx := C.1
  have hb := C.2.1
  have hown := C.2.2.2.1
  have hw := C.2.2.2.2
  have hl : lv_has ls 5 [(0, .ref (a 0)), (1, .int p0), (2, .int p1), (3, .ref o)] := hl
  have hPX : va_P (gD G) vwCl (wX G a S) s.heap := P_tail hP
  refine lv_aload_n hx hb dL_minusSeconds_0 rfl (lv_at hl 3 rfl) ?_
  refine lv_aload_n hx hb dL_minusSeconds_1 rfl (lv_at hl 0 rfl) ?_
  refine lv_iload_n hx hb dL_minusSeconds_2 rfl (lv_at hl 1 rfl) ?_
  refine lv_iload_n hx hb dL_minusSeconds_3 rfl (lv_at hl 2 rfl) ?_
  refine thV (as := [.int p0, .int p1]) (rest := [.ref o]) (cl := RX0) C (tI_X0_minusSeconds l hl9 G a p0 p1 hbad) F_X0_minusSeconds rfl bw650 bw651 bw652 hE hS hA (va_recv hE.K hPX (ci := 2) (q0 := 0) rfl rfl) hl.1 dL_minusSeconds_4 ⟨Nat.le_of_ble_eq_true rfl, Nat.le_of_ble_eq_true rfl⟩ rfl (Nat.le_of_ble_eq_true rfl) ⟨Nat.le_of_ble_eq_true rfl, Nat.le_of_ble_eq_true rfl⟩ (fun q9 ce H1 locs1 hz ho hS1 hce hcv hcl => ?_)
  refine vx_catch hown [] ⟨0, 11, 14, 25⟩ [] (hT.trans rfl) (fun z hz => nomatch hz) (by decide) (by decide) (hw _ bw382) (castXX (hw _ bw391)) hce hcv hcl ?_
  refine lv_astore (lv' := [(4, .ref q9), (0, .ref (a 0)), (1, .int p0), (2, .int p1), (3, .ref o)]) hx hb dL_minusSeconds_14 hl (Nat.le_of_ble_eq_true rfl) rfl (fun ls hl => ?_)
  refine lv_iconst (v := (1 : Int32)) hx hb dL_minusSeconds_16 (by decide) ?_
  exact we_h hx hb hr hk (P_old hP ho) hD hS1 (Nat.le_of_ble_eq_true rfl) (Nat.le_of_ble_eq_true rfl) dL_minusSeconds_17

set_option maxRecDepth 100000 in
set_option maxHeartbeats 4000000 in
theorem hG_minusSeconds (l : Launch) (hl9 : l.stackTraces = false) (G : GT) (a : Nat → Nat) (o : Nat) (n : Int64) (sv : Value) (S : SX) (p0 : Int32) (p1 : Int32) (h0 : vp_in p0 6) : HE l G yL_minusSeconds cL_minusSeconds 5 [(0, 11, 14, 25)] 10 0 0 [.ref (a 0), .int p0, .int p1, .ref o] (wH G a o n sv S) (wH G a o ((gX0_minusSeconds S p0 p1).1.toInt64) sv ((gX0_minusSeconds S p0 p1).2)) (0 : Int32) := by
  refine HE.ofW (own := RL) rfl (by decide +kernel) (Nat.le_of_ble_eq_true rfl) ?_
  intro p e s m below meth c A C hr hk hT hN hE hP hD hA hAB hS ls hl
  have hx := C.1
  have hb := C.2.1
  have hown := C.2.2.2.1
  have hw := C.2.2.2.2
  have hl : lv_has ls 5 [(0, .ref (a 0)), (1, .int p0), (2, .int p1), (3, .ref o)] := hl
  have hPX : va_P (gD G) vwCl (wX G a S) s.heap := P_tail hP
  refine lv_aload_n hx hb dL_minusSeconds_0 rfl (lv_at hl 3 rfl) ?_
  refine lv_aload_n hx hb dL_minusSeconds_1 rfl (lv_at hl 0 rfl) ?_
  refine lv_iload_n hx hb dL_minusSeconds_2 rfl (lv_at hl 1 rfl) ?_
  refine lv_iload_n hx hb dL_minusSeconds_3 rfl (lv_at hl 2 rfl) ?_
  refine wcV1 (as := [.int p0, .int p1]) (rest := [.ref o]) (cl := RX0) C (c_X0_minusSeconds l G a S p0 p1 h0) F_X0_minusSeconds rfl bw650 bw651 bw652 hE hP hD hS hA hAB (va_recv hE.K hPX (ci := 2) (q0 := 0) rfl rfl) hl.1 dL_minusSeconds_4 ⟨Nat.le_of_ble_eq_true rfl, Nat.le_of_ble_eq_true rfl⟩ rfl (Nat.le_of_ble_eq_true rfl) ⟨Nat.le_of_ble_eq_true rfl, Nat.le_of_ble_eq_true rfl⟩ (fun H locs hP hD hS => ?_)
  refine lv_i2l (v := (((gX0_minusSeconds S p0 p1).1).toInt64)) hx hb dL_minusSeconds_7 (by first | rfl | decide) ?_
  refine va_putN (D := gD G) (cl := vwCl) (tys := gT G) (ci := 3) (v := .long (((gX0_minusSeconds S p0 p1).1).toInt64)) (ty := .long) (C := RX1) (T := TX1) (N := 2) hx hb hw inB_X1 tyX1 tyX1_ok nmX1 hown hE.K hP hD hS 0 rfl rfl 0 (by decide) (va_Nw.use rfl hN.2.1) (fun _ h9 => h9) rfl (by decide +kernel) rfl rfl (Nat.le_of_ble_eq_true rfl) dL_minusSeconds_8 (fun H locs hP hD hS => ?_)
  refine lv_goto (tgt := 18) hx hb dL_minusSeconds_11 (by decide) ?_
  refine lv_iconst (v := (0 : Int32)) hx hb dL_minusSeconds_18 (by decide) ?_
  exact we_h hx hb hr hk hP hD hS (Nat.le_of_ble_eq_true rfl) (Nat.le_of_ble_eq_true rfl) dL_minusSeconds_19

set_option maxRecDepth 100000 in
set_option maxHeartbeats 4000000 in
theorem hI_plusNanos (l : Launch) (hl9 : l.stackTraces = false) (G : GT) (a : Nat → Nat) (o : Nat) (n : Int64) (sv : Value) (S : SX) (p0 : Int32) (p1 : Int32) (p2 : Int32) (hbad : ¬ (vp_in p0 6)) : HE l G yL_plusNanos cL_plusNanos 6 [(0, 13, 16, 25)] 10 1 6 [.ref (a 0), .int p0, .int p1, .int p2, .ref o] (wH G a o n sv S) (wH G a o n sv S) (1 : Int32) := by
  refine HE.ofW (own := RL) rfl (by decide +kernel) (Nat.le_of_ble_eq_true rfl) ?_
  intro p e s m below meth c A C hr hk hT hN hE hP hD hA hAB hS ls hl
  have hx := C.1
  have hb := C.2.1
  have hown := C.2.2.2.1
  have hw := C.2.2.2.2
  have hl : lv_has ls 6 [(0, .ref (a 0)), (1, .int p0), (2, .int p1), (3, .int p2), (4, .ref o)] := hl
  have hPX : va_P (gD G) vwCl (wX G a S) s.heap := P_tail hP
  refine lv_aload hx hb dL_plusNanos_0 (lv_at hl 4 rfl) ?_
  refine lv_aload_n hx hb dL_plusNanos_2 rfl (lv_at hl 0 rfl) ?_
  refine lv_iload_n hx hb dL_plusNanos_3 rfl (lv_at hl 1 rfl) ?_
  refine lv_iload_n hx hb dL_plusNanos_4 rfl (lv_at hl 2 rfl) ?_
  refine lv_iload_n hx hb dL_plusNanos_5 rfl (lv_at hl 3 rfl) ?_
  refine thV (as := [.int p0, .int p1, .int p2]) (rest := [.ref o]) (cl := RX0) C (tI_X0_plusNanos l hl9 G a p0 p1 p2 hbad) F_X0_plusNanos rfl bw657 bw658 bw659 hE hS hA (va_recv hE.K hPX (ci := 2) (q0 := 0) rfl rfl) hl.1 dL_plusNanos_6 ⟨Nat.le_of_ble_eq_true rfl, Nat.le_of_ble_eq_true rfl⟩ rfl (Nat.le_of_ble_eq_true rfl) ⟨Nat.le_of_ble_eq_true rfl, Nat.le_of_ble_eq_true rfl⟩ (fun q9 ce H1 locs1 hz ho hS1 hce hcv hcl => ?_)
  refine vx_catch hown [] ⟨0, 13, 16, 25⟩ [] (hT.trans rfl) (fun z hz => nomatch hz) (by decide) (by decide) (hw _ bw382) (castXX (hw _ bw391)) hce hcv hcl ?_
  refine lv_astore (lv' := [(5, .ref q9), (0, .ref (a 0)), (1, .int p0), (2, .int p1), (3, .int p2), (4, .ref o)]) hx hb dL_plusNanos_16 hl (Nat.le_of_ble_eq_true rfl) rfl (fun ls hl => ?_)
  refine lv_iconst (v := (1 : Int32)) hx hb dL_plusNanos_18 (by decide) ?_
  exact we_h hx hb hr hk (P_old hP ho) hD hS1 (Nat.le_of_ble_eq_true rfl) (Nat.le_of_ble_eq_true rfl) dL_plusNanos_19

set_option maxRecDepth 100000 in
set_option maxHeartbeats 4000000 in
theorem hG_plusNanos (l : Launch) (hl9 : l.stackTraces = false) (G : GT) (a : Nat → Nat) (o : Nat) (n : Int64) (sv : Value) (S : SX) (p0 : Int32) (p1 : Int32) (p2 : Int32) (h0 : vp_in p0 6) : HE l G yL_plusNanos cL_plusNanos 6 [(0, 13, 16, 25)] 10 0 0 [.ref (a 0), .int p0, .int p1, .int p2, .ref o] (wH G a o n sv S) (wH G a o ((gX0_plusNanos S p0 p1 p2).1.toInt64) sv ((gX0_plusNanos S p0 p1 p2).2)) (0 : Int32) := by
  refine HE.ofW (own := RL) rfl (by decide +kernel) (Nat.le_of_ble_eq_true rfl) ?_
  intro p e s m below meth c A C hr hk hT hN hE hP hD hA hAB hS ls hl
  have hx := C.1
  have hb := C.2.1
  have hown := C.2.2.2.1
  have hw := C.2.2.2.2
  have hl : lv_has ls 6 [(0, .ref (a 0)), (1, .int p0), (2, .int p1), (3, .int p2), (4, .ref o)] := hl
  have hPX : va_P (gD G) vwCl (wX G a S) s.heap := P_tail hP
  refine lv_aload hx hb dL_plusNanos_0 (lv_at hl 4 rfl) ?_
  refine lv_aload_n hx hb dL_plusNanos_2 rfl (lv_at hl 0 rfl) ?_
  refine lv_iload_n hx hb dL_plusNanos_3 rfl (lv_at hl 1 rfl) ?_
  refine lv_iload_n hx hb dL_plusNanos_4 rfl (lv_at hl 2 rfl) ?_
  refine lv_iload_n hx hb dL_plusNanos_5 rfl (lv_at hl 3 rfl) ?_
  refine wcV1 (as := [.int p0, .int p1, .int p2]) (rest := [.ref o]) (cl := RX0) C (c_X0_plusNanos l G a S p0 p1 p2 h0) F_X0_plusNanos rfl bw657 bw658 bw659 hE hP hD hS hA hAB (va_recv hE.K hPX (ci := 2) (q0 := 0) rfl rfl) hl.1 dL_plusNanos_6 ⟨Nat.le_of_ble_eq_true rfl, Nat.le_of_ble_eq_true rfl⟩ rfl (Nat.le_of_ble_eq_true rfl) ⟨Nat.le_of_ble_eq_true rfl, Nat.le_of_ble_eq_true rfl⟩ (fun H locs hP hD hS => ?_)
  refine lv_i2l (v := (((gX0_plusNanos S p0 p1 p2).1).toInt64)) hx hb dL_plusNanos_9 (by first | rfl | decide) ?_
  refine va_putN (D := gD G) (cl := vwCl) (tys := gT G) (ci := 3) (v := .long (((gX0_plusNanos S p0 p1 p2).1).toInt64)) (ty := .long) (C := RX1) (T := TX1) (N := 2) hx hb hw inB_X1 tyX1 tyX1_ok nmX1 hown hE.K hP hD hS 0 rfl rfl 0 (by decide) (va_Nw.use rfl hN.2.1) (fun _ h9 => h9) rfl (by decide +kernel) rfl rfl (Nat.le_of_ble_eq_true rfl) dL_plusNanos_10 (fun H locs hP hD hS => ?_)
  refine lv_goto (tgt := 20) hx hb dL_plusNanos_13 (by decide) ?_
  refine lv_iconst (v := (0 : Int32)) hx hb dL_plusNanos_20 (by decide) ?_
  exact we_h hx hb hr hk hP hD hS (Nat.le_of_ble_eq_true rfl) (Nat.le_of_ble_eq_true rfl) dL_plusNanos_21

