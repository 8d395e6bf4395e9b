set_option maxRecDepth 100000 in
set_option maxHeartbeats 4000000 in
theorem hI_plusWeeks (l : Launch) (hl9 : l.stackTraces = false) (G : GT) (a : Nat → Nat) (o : Nat) (n : Int64) (sv : Value) (S : SX) (p0 : Int32) (p1 : Int32) (hbad : ¬ (vp_in p0 6)) : HE l G yL_plusWeeks cL_plusWeeks 5 [(0, 11, 14, 25)] 10 1 6 [.ref (a 0), .int p0, .int p1, .ref o] (wH G a o n sv S) (wH G a o n sv S) (1 : Int32) := by
  refine HE.ofW (own := RL) rfl (by decide +kernel) (Nat.le_of_ble_eq_true rfl) ?_
  intro p e s m below meth c A C hr hk hT hN hE hP hD hA hAB hS ls hl
  have hx := C.1
  have hb := C.2.1
  have hown := C.2.2.2.1
  have hw := C.2.2.2.2
  have hl : lv_has ls 5 [(0, .ref (a 0)), (1, .int p0), (2, .int p1), (3, .ref o)] := hl
  have hPX : va_P (gD G) vwCl (wX G a S) s.heap := P_tail hP
  refine lv_aload_n hx hb dL_plusWeeks_0 rfl (lv_at hl 3 rfl) ?_
  refine lv_aload_n hx hb dL_plusWeeks_1 rfl (lv_at hl 0 rfl) ?_
  refine lv_iload_n hx hb dL_plusWeeks_2 rfl (lv_at hl 1 rfl) ?_
  refine lv_iload_n hx hb dL_plusWeeks_3 rfl (lv_at hl 2 rfl) ?_
  refine thV (as := [.int p0, .int p1]) (rest := [.ref o]) (cl := RX0) C (tI_X0_plusWeeks l hl9 G a p0 p1 hbad) F_X0_plusWeeks rfl bw564 bw565 bw566 hE hS hA (va_recv hE.K hPX (ci := 2) (q0 := 0) rfl rfl) hl.1 dL_plusWeeks_4 ⟨Nat.le_of_ble_eq_true rfl, Nat.le_of_ble_eq_true rfl⟩ rfl (Nat.le_of_ble_eq_true rfl) ⟨Nat.le_of_ble_eq_true rfl, Nat.le_of_ble_eq_true rfl⟩ (fun q9 ce H1 locs1 hz ho hS1 hce hcv hcl => ?_)
  refine vx_catch hown [] ⟨0, 11, 14, 25⟩ [] (hT.trans rfl) (fun z hz => nomatch hz) (by decide) (by decide) (hw _ bw382) (castXX (hw _ bw391)) hce hcv hcl ?_
  refine lv_astore (lv' := [(4, .ref q9), (0, .ref (a 0)), (1, .int p0), (2, .int p1), (3, .ref o)]) hx hb dL_plusWeeks_14 hl (Nat.le_of_ble_eq_true rfl) rfl (fun ls hl => ?_)
  refine lv_iconst (v := (1 : Int32)) hx hb dL_plusWeeks_16 (by decide) ?_
  exact we_h hx hb hr hk (P_old hP ho) hD hS1 (Nat.le_of_ble_eq_true rfl) (Nat.le_of_ble_eq_true rfl) dL_plusWeeks_17

set_option maxRecDepth 100000 in
set_option maxHeartbeats 4000000 in
theorem hG_plusWeeks (l : Launch) (hl9 : l.stackTraces = false) (G : GT) (a : Nat → Nat) (o : Nat) (n : Int64) (sv : Value) (S : SX) (p0 : Int32) (p1 : Int32) (h0 : vp_in p0 6) : HE l G yL_plusWeeks cL_plusWeeks 5 [(0, 11, 14, 25)] 10 0 0 [.ref (a 0), .int p0, .int p1, .ref o] (wH G a o n sv S) (wH G a o ((gX0_plusWeeks S p0 p1).1.toInt64) sv ((gX0_plusWeeks S p0 p1).2)) (0 : Int32) := by
  refine HE.ofW (own := RL) rfl (by decide +kernel) (Nat.le_of_ble_eq_true rfl) ?_
  intro p e s m below meth c A C hr hk hT hN hE hP hD hA hAB hS ls hl
  have hx := C.1
  have hb := C.2.1
  have hown := C.2.2.2.1
  have hw := C.2.2.2.2
  have hl : lv_has ls 5 [(0, .ref (a 0)), (1, .int p0), (2, .int p1), (3, .ref o)] := hl
  have hPX : va_P (gD G) vwCl (wX G a S) s.heap := P_tail hP
  refine lv_aload_n hx hb dL_plusWeeks_0 rfl (lv_at hl 3 rfl) ?_
  refine lv_aload_n hx hb dL_plusWeeks_1 rfl (lv_at hl 0 rfl) ?_
  refine lv_iload_n hx hb dL_plusWeeks_2 rfl (lv_at hl 1 rfl) ?_
  refine lv_iload_n hx hb dL_plusWeeks_3 rfl (lv_at hl 2 rfl) ?_
  refine wcV1 (as := [.int p0, .int p1]) (rest := [.ref o]) (cl := RX0) C (c_X0_plusWeeks l G a S p0 p1 h0) F_X0_plusWeeks rfl bw564 bw565 bw566 hE hP hD hS hA hAB (va_recv hE.K hPX (ci := 2) (q0 := 0) rfl rfl) hl.1 dL_plusWeeks_4 ⟨Nat.le_of_ble_eq_true rfl, Nat.le_of_ble_eq_true rfl⟩ rfl (Nat.le_of_ble_eq_true rfl) ⟨Nat.le_of_ble_eq_true rfl, Nat.le_of_ble_eq_true rfl⟩ (fun H locs hP hD hS => ?_)
  refine lv_i2l (v := (((gX0_plusWeeks S p0 p1).1).toInt64)) hx hb dL_plusWeeks_7 (by first | rfl | decide) ?_
  refine va_putN (D := gD G) (cl := vwCl) (tys := gT G) (ci := 3) (v := .long (((gX0_plusWeeks S p0 p1).1).toInt64)) (ty := .long) (C := RX1) (T := TX1) (N := 2) hx hb hw inB_X1 tyX1 tyX1_ok nmX1 hown hE.K hP hD hS 0 rfl rfl 0 (by decide) (va_Nw.use rfl hN.2.1) (fun _ h9 => h9) rfl (by decide +kernel) rfl rfl (Nat.le_of_ble_eq_true rfl) dL_plusWeeks_8 (fun H locs hP hD hS => ?_)
  refine lv_goto (tgt := 18) hx hb dL_plusWeeks_11 (by decide) ?_
  refine lv_iconst (v := (0 : Int32)) hx hb dL_plusWeeks_18 (by decide) ?_
  exact we_h hx hb hr hk hP hD hS (Nat.le_of_ble_eq_true rfl) (Nat.le_of_ble_eq_true rfl) dL_plusWeeks_19

set_option maxRecDepth 100000 in
set_option maxHeartbeats 4000000 in
theorem hI_minusWeeks (l : Launch) (hl9 : l.stackTraces = false) (G : GT) (a : Nat → Nat) (o : Nat) (n : Int64) (sv : Value) (S : SX) (p0 : Int32) (p1 : Int32) (hbad : ¬ (vp_in p0 6)) : HE l G yL_minusWeeks cL_minusWeeks 5 [(0, 11, 14, 25)] 10 1 6 [.ref (a 0), .int p0, .int p1, .ref o] (wH G a o n sv S) (wH G a o n sv S) (1 : Int32) := by
  refine HE.ofW (own := RL) rfl (by decide +kernel) (Nat.le_of_ble_eq_true rfl) ?_
  intro p e s m below meth c A C hr hk hT hN hE hP hD hA hAB hS ls hl
  have hx := C.1
  have hb := C.2.1
  have hown := C.2.2.2.1
  have hw := C.2.2.2.2
  have hl : lv_has ls 5 [(0, .ref (a 0)), (1, .int p0), (2, .int p1), (3, .ref o)] := hl
  have hPX : va_P (gD G) vwCl (wX G a S) s.heap := P_tail hP
  refine lv_aload_n hx hb dL_minusWeeks_0 rfl (lv_at hl 3 rfl) ?_
  refine lv_aload_n hx hb dL_minusWeeks_1 rfl (lv_at hl 0 rfl) ?_
  refine lv_iload_n hx hb dL_minusWeeks_2 rfl (lv_at hl 1 rfl) ?_
  refine lv_iload_n hx hb dL_minusWeeks_3 rfl (lv_at hl 2 rfl) ?_
  refine thV (as := [.int p0, .int p1]) (rest := [.ref o]) (cl := RX0) C (tI_X0_minusWeeks l hl9 G a p0 p1 hbad) F_X0_minusWeeks rfl bw622 bw623 bw624 hE hS hA (va_recv hE.K hPX (ci := 2) (q0 := 0) rfl rfl) hl.1 dL_minusWeeks_4 ⟨Nat.le_of_ble_eq_true rfl, Nat.le_of_ble_eq_true rfl⟩ rfl (Nat.le_of_ble_eq_true rfl) ⟨Nat.le_of_ble_eq_true rfl, Nat.le_of_ble_eq_true rfl⟩ (fun q9 ce H1 locs1 hz ho hS1 hce hcv hcl => ?_)
  refine vx_catch hown [] ⟨0, 11, 14, 25⟩ [] (hT.trans rfl) (fun z hz => nomatch hz) (by decide) (by decide) (hw _ bw382) (castXX (hw _ bw391)) hce hcv hcl ?_
  refine lv_astore (lv' := [(4, .ref q9), (0, .ref (a 0)), (1, .int p0), (2, .int p1), (3, .ref o)]) hx hb dL_minusWeeks_14 hl (Nat.le_of_ble_eq_true rfl) rfl (fun ls hl => ?_)
  refine lv_iconst (v := (1 : Int32)) hx hb dL_minusWeeks_16 (by decide) ?_
  exact we_h hx hb hr hk (P_old hP ho) hD hS1 (Nat.le_of_ble_eq_true rfl) (Nat.le_of_ble_eq_true rfl) dL_minusWeeks_17

set_option maxRecDepth 100000 in
set_option maxHeartbeats 4000000 in
theorem hG_minusWeeks (l : Launch) (hl9 : l.stackTraces = false) (G : GT) (a : Nat → Nat) (o : Nat) (n : Int64) (sv : Value) (S : SX) (p0 : Int32) (p1 : Int32) (h0 : vp_in p0 6) : HE l G yL_minusWeeks cL_minusWeeks 5 [(0, 11, 14, 25)] 10 0 0 [.ref (a 0), .int p0, .int p1, .ref o] (wH G a o n sv S) (wH G a o ((gX0_minusWeeks S p0 p1).1.toInt64) sv ((gX0_minusWeeks S p0 p1).2)) (0 : Int32) := by
  refine HE.ofW (own := RL) rfl (by decide +kernel) (Nat.le_of_ble_eq_true rfl) ?_
  intro p e s m below meth c A C hr hk hT hN hE hP hD hA hAB hS ls hl
  have hx := C.1
  have hb := C.2.1
  have hown := C.2.2.2.1
  have hw := C.2.2.2.2
  have hl : lv_has ls 5 [(0, .ref (a 0)), (1, .int p0), (2, .int p1), (3, .ref o)] := hl
  have hPX : va_P (gD G) vwCl (wX G a S) s.heap := P_tail hP
  refine lv_aload_n hx hb dL_minusWeeks_0 rfl (lv_at hl 3 rfl) ?_
  refine lv_aload_n hx hb dL_minusWeeks_1 rfl (lv_at hl 0 rfl) ?_
  refine lv_iload_n hx hb dL_minusWeeks_2 rfl (lv_at hl 1 rfl) ?_
  refine lv_iload_n hx hb dL_minusWeeks_3 rfl (lv_at hl 2 rfl) ?_
  refine wcV1 (as := [.int p0, .int p1]) (rest := [.ref o]) (cl := RX0) C (c_X0_minusWeeks l G a S p0 p1 h0) F_X0_minusWeeks rfl bw622 bw623 bw624 hE hP hD hS hA hAB (va_recv hE.K hPX (ci := 2) (q0 := 0) rfl rfl) hl.1 dL_minusWeeks_4 ⟨Nat.le_of_ble_eq_true rfl, Nat.le_of_ble_eq_true rfl⟩ rfl (Nat.le_of_ble_eq_true rfl) ⟨Nat.le_of_ble_eq_true rfl, Nat.le_of_ble_eq_true rfl⟩ (fun H locs hP hD hS => ?_)
  refine lv_i2l (v := (((gX0_minusWeeks S p0 p1).1).toInt64)) hx hb dL_minusWeeks_7 (by first | rfl | decide) ?_
  refine va_putN (D := gD G) (cl := vwCl) (tys := gT G) (ci := 3) (v := .long (((gX0_minusWeeks S p0 p1).1).toInt64)) (ty := .long) (C := RX1) (T := TX1) (N := 2) hx hb hw inB_X1 tyX1 tyX1_ok nmX1 hown hE.K hP hD hS 0 rfl rfl 0 (by decide) (va_Nw.use rfl hN.2.1) (fun _ h9 => h9) rfl (by decide +kernel) rfl rfl (Nat.le_of_ble_eq_true rfl) dL_minusWeeks_8 (fun H locs hP hD hS => ?_)
  refine lv_goto (tgt := 18) hx hb dL_minusWeeks_11 (by decide) ?_
  refine lv_iconst (v := (0 : Int32)) hx hb dL_minusWeeks_18 (by decide) ?_
  exact we_h hx hb hr hk hP hD hS (Nat.le_of_ble_eq_true rfl) (Nat.le_of_ble_eq_true rfl) dL_minusWeeks_19

set_option maxRecDepth 100000 in
set_option maxHeartbeats 4000000 in
theorem hI_plusDays (l : Launch) (hl9 : l.stackTraces = false) (G : GT) (a : Nat → Nat) (o : Nat) (n : Int64) (sv : Value) (S : SX) (p0 : Int32) (p1 : Int32) (hbad : ¬ (vp_in p0 6)) : HE l G yL_plusDays cL_plusDays 5 [(0, 11, 14, 25)] 10 1 6 [.ref (a 0), .int p0, .int p1, .ref o] (wH G a o n sv S) (wH G a o n sv S) (1 : Int32) := by
  refine HE.ofW (own := RL) rfl (by decide +kernel) (Nat.le_of_ble_eq_true rfl) ?_
  intro p e s m below meth c A C hr hk hT hN hE hP hD hA hAB hS ls hl
  have hx := C.1
  have hb := C.2.1
  have hown := C.2.2.2.1
  have hw := C.2.2.2.2
  have hl : lv_has ls 5 [(0, .ref (a 0)), (1, .int p0), (2, .int p1), (3, .ref o)] := hl
  have hPX : va_P (gD G) vwCl (wX G a S) s.heap := P_tail hP
  refine lv_aload_n hx hb dL_plusDays_0 rfl (lv_at hl 3 rfl) ?_
  refine lv_aload_n hx hb dL_plusDays_1 rfl (lv_at hl 0 rfl) ?_
  refine lv_iload_n hx hb dL_plusDays_2 rfl (lv_at hl 1 rfl) ?_
  refine lv_iload_n hx hb dL_plusDays_3 rfl (lv_at hl 2 rfl) ?_
  refine thV (as := [.int p0, .int p1]) (rest := [.ref o]) (cl := RX0) C (tI_X0_plusDays l hl9 G a p0 p1 hbad) F_X0_plusDays rfl bw579 bw580 bw581 hE hS hA (va_recv hE.K hPX (ci := 2) (q0 := 0) rfl rfl) hl.1 dL_plusDays_4 ⟨Nat.le_of_ble_eq_true rfl, Nat.le_of_ble_eq_true rfl⟩ rfl (Nat.le_of_ble_eq_true rfl) ⟨Nat.le_of_ble_eq_true rfl, Nat.le_of_ble_eq_true rfl⟩ (fun q9 ce H1 locs1 hz ho hS1 hce hcv hcl => ?_)
  refine vx_catch hown [] ⟨0, 11, 14, 25⟩ [] (hT.trans rfl) (fun z hz => nomatch hz) (by decide) (by decide) (hw _ bw382) (castXX (hw _ bw391)) hce hcv hcl ?_
  refine lv_astore (lv' := [(4, .ref q9), (0, .ref (a 0)), (1, .int p0), (2, .int p1), (3, .ref o)]) hx hb dL_plusDays_14 hl (Nat.le_of_ble_eq_true rfl) rfl (fun ls hl => ?_)
  refine lv_iconst (v := (1 : Int32)) hx hb dL_plusDays_16 (by decide) ?_
  exact we_h hx hb hr hk (P_old hP ho) hD hS1 (Nat.le_of_ble_eq_true rfl) (Nat.le_of_ble_eq_true rfl) dL_plusDays_17

set_option maxRecDepth 100000 in
set_option maxHeartbeats 4000000 in
theorem hG_plusDays (l : Launch) (hl9 : l.stackTraces = false) (G : GT) (a : Nat → Nat) (o : Nat) (n : Int64) (sv : Value) (S : SX) (p0 : Int32) (p1 : Int32) (h0 : vp_in p0 6) : HE l G yL_plusDays cL_plusDays 5 [(0, 11, 14, 25)] 10 0 0 [.ref (a 0), .int p0, .int p1, .ref o] (wH G a o n sv S) (wH G a o ((gX0_plusDays S p0 p1).1.toInt64) sv ((gX0_plusDays S p0 p1).2)) (0 : Int32) := by
  refine HE.ofW (own := RL) rfl (by decide +kernel) (Nat.le_of_ble_eq_true rfl) ?_
  intro p e s m below meth c A C hr hk hT hN hE hP hD hA hAB hS ls hl
  have hx := C.1
  have hb := C.2.1
  have hown := C.2.2.2.1
  have hw := C.2.2.2.2
  have hl : lv_has ls 5 [(0, .ref (a 0)), (1, .int p0), (2, .int p1), (3, .ref o)] := hl
  have hPX : va_P (gD G) vwCl (wX G a S) s.heap := P_tail hP
  refine lv_aload_n hx hb dL_plusDays_0 rfl (lv_at hl 3 rfl) ?_
  refine lv_aload_n hx hb dL_plusDays_1 rfl (lv_at hl 0 rfl) ?_
  refine lv_iload_n hx hb dL_plusDays_2 rfl (lv_at hl 1 rfl) ?_
  refine lv_iload_n hx hb dL_plusDays_3 rfl (lv_at hl 2 rfl) ?_
  refine wcV1 (as := [.int p0, .int p1]) (rest := [.ref o]) (cl := RX0) C (c_X0_plusDays l G a S p0 p1 h0) F_X0_plusDays rfl bw579 bw580 bw581 hE hP hD hS hA hAB (va_recv hE.K hPX (ci := 2) (q0 := 0) rfl rfl) hl.1 dL_plusDays_4 ⟨Nat.le_of_ble_eq_true rfl, Nat.le_of_ble_eq_true rfl⟩ rfl (Nat.le_of_ble_eq_true rfl) ⟨Nat.le_of_ble_eq_true rfl, Nat.le_of_ble_eq_true rfl⟩ (fun H locs hP hD hS => ?_)
  refine lv_i2l (v := (((gX0_plusDays S p0 p1).1).toInt64)) hx hb dL_plusDays_7 (by first | rfl | decide) ?_
  refine va_putN (D := gD G) (cl := vwCl) (tys := gT G) (ci := 3) (v := .long (((gX0_plusDays S p0 p1).1).toInt64)) (ty := .long) (C := RX1) (T := TX1) (N := 2) hx hb hw inB_X1 tyX1 tyX1_ok nmX1 hown hE.K hP hD hS 0 rfl rfl 0 (by decide) (va_Nw.use rfl hN.2.1) (fun _ h9 => h9) rfl (by decide +kernel) rfl rfl (Nat.le_of_ble_eq_true rfl) dL_plusDays_8 (fun H locs hP hD hS => ?_)
  refine lv_goto (tgt := 18) hx hb dL_plusDays_11 (by decide) ?_
  refine lv_iconst (v := (0 : Int32)) hx hb dL_plusDays_18 (by decide) ?_
  exact we_h hx hb hr hk hP hD hS (Nat.le_of_ble_eq_true rfl) (Nat.le_of_ble_eq_true rfl) dL_plusDays_19

set_option maxRecDepth 100000 in
set_option maxHeartbeats 4000000 in
theorem hI_minusDays (l : Launch) (hl9 : l.stackTraces = false) (G : GT) (a : Nat → Nat) (o : Nat) (n : Int64) (sv : Value) (S : SX) (p0 : Int32) (p1 : Int32) (hbad : ¬ (vp_in p0 6)) : HE l G yL_minusDays cL_minusDays 5 [(0, 11, 14, 25)] 10 1 6 [.ref (a 0), .int p0, .int p1, .ref o] (wH G a o n sv S) (wH G a o n sv S) (1 : Int32) := by
  refine HE.ofW (own := RL) rfl (by decide +kernel) (Nat.le_of_ble_eq_true rfl) ?_
  intro p e s m below meth c A C hr hk hT hN hE hP hD hA hAB hS ls hl
  have hx := C.1
  have hb := C.2.1
  have hown := C.2.2.2.1
  have hw := C.2.2.2.2
  have hl : lv_has ls 5 [(0, .ref (a 0)), (1, .int p0), (2, .int p1), (3, .ref o)] := hl
  have hPX : va_P (gD G) vwCl (wX G a S) s.heap := P_tail hP
  refine lv_aload_n hx hb dL_minusDays_0 rfl (lv_at hl 3 rfl) ?_
  refine lv_aload_n hx hb dL_minusDays_1 rfl (lv_at hl 0 rfl) ?_
  refine lv_iload_n hx hb dL_minusDays_2 rfl (lv_at hl 1 rfl) ?_
  refine lv_iload_n hx hb dL_minusDays_3 rfl (lv_at hl 2 rfl) ?_
  refine thV (as := [.int p0, .int p1]) (rest := [.ref o]) (cl := RX0) C (tI_X0_minusDays l hl9 G a p0 p1 hbad) F_X0_minusDays rfl bw629 bw630 bw631 hE hS hA (va_recv hE.K hPX (ci := 2) (q0 := 0) rfl rfl) hl.1 dL_minusDays_4 ⟨Nat.le_of_ble_eq_true rfl, Nat.le_of_ble_eq_true rfl⟩ rfl (Nat.le_of_ble_eq_true rfl) ⟨Nat.le_of_ble_eq_true rfl, Nat.le_of_ble_eq_true rfl⟩ (fun q9 ce H1 locs1 hz ho hS1 hce hcv hcl => ?_)
  refine vx_catch hown [] ⟨0, 11, 14, 25⟩ [] (hT.trans rfl) (fun z hz => nomatch hz) (by decide) (by decide) (hw _ bw382) (castXX (hw _ bw391)) hce hcv hcl ?_
  refine lv_astore (lv' := [(4, .ref q9), (0, .ref (a 0)), (1, .int p0), (2, .int p1), (3, .ref o)]) hx hb dL_minusDays_14 hl (Nat.le_of_ble_eq_true rfl) rfl (fun ls hl => ?_)
  refine lv_iconst (v := (1 : Int32)) hx hb dL_minusDays_16 (by decide) ?_
  exact we_h hx hb hr hk (P_old hP ho) hD hS1 (Nat.le_of_ble_eq_true rfl) (Nat.le_of_ble_eq_true rfl) dL_minusDays_17

set_option maxRecDepth 100000 in
set_option maxHeartbeats 4000000 in
theorem hG_minusDays (l : Launch) (hl9 : l.stackTraces = false) (G : GT) (a : Nat → Nat) (o : Nat) (n : Int64) (sv : Value) (S : SX) (p0 : Int32) (p1 : Int32) (h0 : vp_in p0 6) : HE l G yL_minusDays cL_minusDays 5 [(0, 11, 14, 25)] 10 0 0 [.ref (a 0), .int p0, .int p1, .ref o] (wH G a o n sv S) (wH G a o ((gX0_minusDays S p0 p1).1.toInt64) sv ((gX0_minusDays S p0 p1).2)) (0 : Int32) := by
  refine HE.ofW (own := RL) rfl (by decide +kernel) (Nat.le_of_ble_eq_true rfl) ?_
  intro p e s m below meth c A C hr hk hT hN hE hP hD hA hAB hS ls hl
  have hx := C.1
  have hb := C.2.1
  have hown := C.2.2.2.1
  have hw := C.2.2.2.2
  have hl : lv_has ls 5 [(0, .ref (a 0)), (1, .int p0), (2, .int p1), (3, .ref o)] := hl
  have hPX : va_P (gD G) vwCl (wX G a S) s.heap := P_tail hP
  refine lv_aload_n hx hb dL_minusDays_0 rfl (lv_at hl 3 rfl) ?_
  refine lv_aload_n hx hb dL_minusDays_1 rfl (lv_at hl 0 rfl) ?_
  refine lv_iload_n hx hb dL_minusDays_2 rfl (lv_at hl 1 rfl) ?_
  refine lv_iload_n hx hb dL_minusDays_3 rfl (lv_at hl 2 rfl) ?_
  refine wcV1 (as := [.int p0, .int p1]) (rest := [.ref o]) (cl := RX0) C (c_X0_minusDays l G a S p0 p1 h0) F_X0_minusDays rfl bw629 bw630 bw631 hE hP hD hS hA hAB (va_recv hE.K hPX (ci := 2) (q0 := 0) rfl rfl) hl.1 dL_minusDays_4 ⟨Nat.le_of_ble_eq_true rfl, Nat.le_of_ble_eq_true rfl⟩ rfl (Nat.le_of_ble_eq_true rfl) ⟨Nat.le_of_ble_eq_true rfl, Nat.le_of_ble_eq_true rfl⟩ (fun H locs hP hD hS => ?_)
  refine lv_i2l (v := (((gX0_minusDays S p0 p1).1).toInt64)) hx hb dL_minusDays_7 (by first | rfl | decide) ?_
  refine va_putN (D := gD G) (cl := vwCl) (tys := gT G) (ci := 3) (v := .long (((gX0_minusDays S p0 p1).1).toInt64)) (ty := .long) (C := RX1) (T := TX1) (N := 2) hx hb hw inB_X1 tyX1 tyX1_ok nmX1 hown hE.K hP hD hS 0 rfl rfl 0 (by decide) (va_Nw.use rfl hN.2.1) (fun _ h9 => h9) rfl (by decide +kernel) rfl rfl (Nat.le_of_ble_eq_true rfl) dL_minusDays_8 (fun H locs hP hD hS => ?_)
  refine lv_goto (tgt := 18) hx hb dL_minusDays_11 (by decide) ?_
  refine lv_iconst (v := (0 : Int32)) hx hb dL_minusDays_18 (by decide) ?_
  exact we_h hx hb hr hk hP hD hS (Nat.le_of_ble_eq_true rfl) (Nat.le_of_ble_eq_true rfl) dL_minusDays_19

set_option maxRecDepth 100000 in
set_option maxHeartbeats 4000000 in
theorem hI_plusHours (l : Launch) (hl9 : l.stackTraces = false) (G : GT) (a : Nat → Nat) (o : Nat) (n : Int64) (sv : Value) (S : SX) (p0 : Int32) (p1 : Int32) (hbad : ¬ (vp_in p0 6)) : HE l G yL_plusHours cL_plusHours 5 [(0, 11, 14, 25)] 10 1 6 [.ref (a 0), .int p0, .int p1, .ref o] (wH G a o n sv S) (wH G a o n sv S) (1 : Int32) := by
  refine HE.ofW (own := RL) rfl (by decide +kernel) (Nat.le_of_ble_eq_true rfl) ?_
  intro p e s m below meth c A C hr hk hT hN hE hP hD hA hAB hS ls hl
  have hx := C.1
  have hb := C.2.1
  have hown := C.2.2.2.1
  have hw := C.2.2.2.2
  have hl : lv_has ls 5 [(0, .ref (a 0)), (1, .int p0), (2, .int p1), (3, .ref o)] := hl
  have hPX : va_P (gD G) vwCl (wX G a S) s.heap := P_tail hP
  refine lv_aload_n hx hb dL_plusHours_0 rfl (lv_at hl 3 rfl) ?_
  refine lv_aload_n hx hb dL_plusHours_1 rfl (lv_at hl 0 rfl) ?_
  refine lv_iload_n hx hb dL_plusHours_2 rfl (lv_at hl 1 rfl) ?_
  refine lv_iload_n hx hb dL_plusHours_3 rfl (lv_at hl 2 rfl) ?_
  refine thV (as := [.int p0, .int p1]) (rest := [.ref o]) (cl := RX0) C (tI_X0_plusHours l hl9 G a p0 p1 hbad) F_X0_plusHours rfl bw586 bw587 bw588 hE hS hA (va_recv hE.K hPX (ci := 2) (q0 := 0) rfl rfl) hl.1 dL_plusHours_4 ⟨Nat.le_of_ble_eq_true rfl, Nat.le_of_ble_eq_true rfl⟩ rfl (Nat.le_of_ble_eq_true rfl) ⟨Nat.le_of_ble_eq_true rfl, Nat.le_of_ble_eq_true rfl⟩ (fun q9 ce H1 locs1 hz ho hS1 hce hcv hcl => ?_)
  refine vx_catch hown [] ⟨0, 11, 14, 25⟩ [] (hT.trans rfl) (fun z hz => nomatch hz) (by decide) (by decide) (hw _ bw382) (castXX (hw _ bw391)) hce hcv hcl ?_
  refine lv_astore (lv' := [(4, .ref q9), (0, .ref (a 0)), (1, .int p0), (2, .int p1), (3, .ref o)]) hx hb dL_plusHours_14 hl (Nat.le_of_ble_eq_true rfl) rfl (fun ls hl => ?_)
  refine lv_iconst (v := (1 : Int32)) hx hb dL_plusHours_16 (by decide) ?_
  exact we_h hx hb hr hk (P_old hP ho) hD hS1 (Nat.le_of_ble_eq_true rfl) (Nat.le_of_ble_eq_true rfl) dL_plusHours_17

set_option maxRecDepth 100000 in
set_option maxHeartbeats 4000000 in
theorem hG_plusHours (l : Launch) (hl9 : l.stackTraces = false) (G : GT) (a : Nat → Nat) (o : Nat) (n : Int64) (sv : Value) (S : SX) (p0 : Int32) (p1 : Int32) (h0 : vp_in p0 6) : HE l G yL_plusHours cL_plusHours 5 [(0, 11, 14, 25)] 10 0 0 [.ref (a 0), .int p0, .int p1, .ref o] (wH G a o n sv S) (wH G a o ((gX0_plusHours S p0 p1).1.toInt64) sv ((gX0_plusHours S p0 p1).2)) (0 : Int32) := by
  refine HE.ofW (own := RL) rfl (by decide +kernel) (Nat.le_of_ble_eq_true rfl) ?_
  intro p e s m below meth c A C hr hk hT hN hE hP hD hA hAB hS ls hl
  have hx := C.1
  have hb := C.2.1
  have hown := C.2.2.2.1
  have hw := C.2.2.2.2
  have hl : lv_has ls 5 [(0, .ref (a 0)), (1, .int p0), (2, .int p1), (3, .ref o)] := hl
  have hPX : va_P (gD G) vwCl (wX G a S) s.heap := P_tail hP
  refine lv_aload_n hx hb dL_plusHours_0 rfl (lv_at hl 3 rfl) ?_
  refine lv_aload_n hx hb dL_plusHours_1 rfl (lv_at hl 0 rfl) ?_
  refine lv_iload_n hx hb dL_plusHours_2 rfl (lv_at hl 1 rfl) ?_
  refine lv_iload_n hx hb dL_plusHours_3 rfl (lv_at hl 2 rfl) ?_
  refine wcV1 (as := [.int p0, .int p1]) (rest := [.ref o]) (cl := RX0) C (c_X0_plusHours l G a S p0 p1 h0) F_X0_plusHours rfl bw586 bw587 bw588 hE hP hD hS hA hAB (va_recv hE.K hPX (ci := 2) (q0 := 0) rfl rfl) hl.1 dL_plusHours_4 ⟨Nat.le_of_ble_eq_true rfl, Nat.le_of_ble_eq_true rfl⟩ rfl (Nat.le_of_ble_eq_true rfl) ⟨Nat.le_of_ble_eq_true rfl, Nat.le_of_ble_eq_true rfl⟩ (fun H locs hP hD hS => ?_)
  refine lv_i2l (v := (((gX0_plusHours S p0 p1).1).toInt64)) hx hb dL_plusHours_7 (by first | rfl | decide) ?_
  refine va_putN (D := gD G) (cl := vwCl) (tys := gT G) (ci := 3) (v := .long (((gX0_plusHours S p0 p1).1).toInt64)) (ty := .long) (C := RX1) (T := TX1) (N := 2) hx hb hw inB_X1 tyX1 tyX1_ok nmX1 hown hE.K hP hD hS 0 rfl rfl 0 (by decide) (va_Nw.use rfl hN.2.1) (fun _ h9 => h9) rfl (by decide +kernel) rfl rfl (Nat.le_of_ble_eq_true rfl) dL_plusHours_8 (fun H locs hP hD hS => ?_)
  refine lv_goto (tgt := 18) hx hb dL_plusHours_11 (by decide) ?_
  refine lv_iconst (v := (0 : Int32)) hx hb dL_plusHours_18 (by decide) ?_
  exact we_h hx hb hr hk hP hD hS (Nat.le_of_ble_eq_true rfl) (Nat.le_of_ble_eq_true rfl) dL_plusHours_19

set_option maxRecDepth 100000 in
set_option maxHeartbeats 4000000 in
theorem hI_minusHours (l : Launch) (hl9 : l.stackTraces = false) (G : GT) (a : Nat → Nat) (o : Nat) (n : Int64) (sv : Value) (S : SX) (p0 : Int32) (p1 : Int32) (hbad : ¬ (vp_in p0 6)) : HE l G yL_minusHours cL_minusHours 5 [(0, 11, 14, 25)] 10 1 6 [.ref (a 0), .int p0, .int p1, .ref o] (wH G a o n sv S) (wH G a o n sv S) (1 : Int32) := by
  refine HE.ofW (own := RL) rfl (by decide +kernel) (Nat.le_of_ble_eq_true rfl) ?_
  intro p e s m below meth c A C hr hk hT hN hE hP hD hA hAB hS ls hl
  have hx := C.1
  have hb := C.2.1
  have hown := C.2.2.2.1
  have hw := C.2.2.2.2
  have hl : lv_has ls 5 [(0, .ref (a 0)), (1, .int p0), (2, .int p1), (3, .ref o)] := hl
  have hPX : va_P (gD G) vwCl (wX G a S) s.heap := P_tail hP
  refine lv_aload_n hx hb dL_minusHours_0 rfl (lv_at hl 3 rfl) ?_
  refine lv_aload_n hx hb dL_minusHours_1 rfl (lv_at hl 0 rfl) ?_
  refine lv_iload_n hx hb dL_minusHours_2 rfl (lv_at hl 1 rfl) ?_
  refine lv_iload_n hx hb dL_minusHours_3 rfl (lv_at hl 2 rfl) ?_
  refine thV (as := [.int p0, .int p1]) (rest := [.ref o]) (cl := RX0) C (tI_X0_minusHours l hl9 G a p0 p1 hbad) F_X0_minusHours rfl bw636 bw637 bw638 hE hS hA (va_recv hE.K hPX (ci := 2) (q0 := 0) rfl rfl) hl.1 dL_minusHours_4 ⟨Nat.le_of_ble_eq_true rfl, Nat.le_of_ble_eq_true rfl⟩ rfl (Nat.le_of_ble_eq_true rfl) ⟨Nat.le_of_ble_eq_true rfl, Nat.le_of_ble_eq_true rfl⟩ (fun q9 ce H1 locs1 hz ho hS1 hce hcv hcl => ?_)
  refine vx_catch hown [] ⟨0, 11, 14, 25⟩ [] (hT.trans rfl) (fun z hz => nomatch hz) (by decide) (by decide) (hw _ bw382) (castXX (hw _ bw391)) hce hcv hcl ?_
  refine lv_astore (lv' := [(4, .ref q9), (0, .ref (a 0)), (1, .int p0), (2, .int p1), (3, .ref o)]) hx hb dL_minusHours_14 hl (Nat.le_of_ble_eq_true rfl) rfl (fun ls hl => ?_)
  refine lv_iconst (v := (1 : Int32)) hx hb dL_minusHours_16 (by decide) ?_
  exact we_h hx hb hr hk (P_old hP ho) hD hS1 (Nat.le_of_ble_eq_true rfl) (Nat.le_of_ble_eq_true rfl) dL_minusHours_17

