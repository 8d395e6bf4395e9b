set_option maxRecDepth 100000 in
set_option maxHeartbeats 4000000 in
theorem hG_dayOfYear (l : Launch) (hl9 : l.stackTraces = false) (G : GT) (a : Nat → Nat) (o : Nat) (n : Int64) (sv : Value) (S : SX) (p0 : Int32) (h0 : vp_in p0 6) : HE l G yL_dayOfYear cL_dayOfYear 4 [(0, 10, 13, 25)] 10 0 0 [.ref (a 0), .int p0, .ref o] (wH G a o n sv S) (wH G a o ((fX0_dayOfYear S p0).toInt64) sv S) (0 : Int32) := by
  refine HE.ofW (own := RL) rfl (by decide +kernel) (Nat.le_of_ble_eq_true rfl) ?_
  intro p e s m below meth c A C hr hk hT hN hE hP hD hA hAB hS ls hl
  have hx := C.1
  have hb := C.2.1
  have hown := C.2.2.2.1
  have hw := C.2.2.2.2
  have hl : lv_has ls 4 [(0, .ref (a 0)), (1, .int p0), (2, .ref o)] := hl
  have hPX : va_P (gD G) vwCl (wX G a S) s.heap := P_tail hP
  refine lv_aload_n hx hb dL_dayOfYear_0 rfl (lv_at hl 2 rfl) ?_
  refine lv_aload_n hx hb dL_dayOfYear_1 rfl (lv_at hl 0 rfl) ?_
  refine lv_iload_n hx hb dL_dayOfYear_2 rfl (lv_at hl 1 rfl) ?_
  refine rcVi (as := [.int p0]) (rest := [.ref o]) (cl := RX0) C (c_X0_dayOfYear l G a S p0 h0) F_X0_dayOfYear rfl bw707 bw708 bw709 hE hPX (va_recv hE.K hPX (ci := 2) (q0 := 0) rfl rfl) hl.1 dL_dayOfYear_3 ⟨Nat.le_of_ble_eq_true rfl, Nat.le_of_ble_eq_true rfl⟩ rfl (Nat.le_of_ble_eq_true rfl) ⟨Nat.le_of_ble_eq_true rfl, Nat.le_of_ble_eq_true rfl⟩ ?_
  refine lv_i2l (v := ((fX0_dayOfYear S p0).toInt64)) hx hb dL_dayOfYear_6 (by first | rfl | decide) ?_
  refine va_putN (D := gD G) (cl := vwCl) (tys := gT G) (ci := 3) (v := .long ((fX0_dayOfYear S p0).toInt64)) (ty := .long) (C := RX1) (T := TX1) (N := 2) hx hb hw inB_X1 tyX1 tyX1_ok nmX1 hown hE.K hP hD hS 0 rfl rfl 0 (by decide) (va_Nw.use rfl hN.2.1) (fun _ h9 => h9) rfl (by decide +kernel) rfl rfl (Nat.le_of_ble_eq_true rfl) dL_dayOfYear_7 (fun H locs hP hD hS => ?_)
  refine lv_goto (tgt := 16) hx hb dL_dayOfYear_10 (by decide) ?_
  refine lv_iconst (v := (0 : Int32)) hx hb dL_dayOfYear_16 (by decide) ?_
  exact we_h hx hb hr hk hP hD hS (Nat.le_of_ble_eq_true rfl) (Nat.le_of_ble_eq_true rfl) dL_dayOfYear_17

set_option maxRecDepth 100000 in
set_option maxHeartbeats 4000000 in
theorem hI_dayOfWeek (l : Launch) (hl9 : l.stackTraces = false) (G : GT) (a : Nat → Nat) (o : Nat) (n : Int64) (sv : Value) (S : SX) (p0 : Int32) (hbad : ¬ (vp_in p0 6)) : HE l G yL_dayOfWeek cL_dayOfWeek 4 [(0, 10, 13, 25)] 10 1 6 [.ref (a 0), .int p0, .ref o] (wH G a o n sv S) (wH G a o n sv S) (1 : Int32) := by
  refine HE.ofW (own := RL) rfl (by decide +kernel) (Nat.le_of_ble_eq_true rfl) ?_
  intro p e s m below meth c A C hr hk hT hN hE hP hD hA hAB hS ls hl
  have hx := C.1
  have hb := C.2.1
  have hown := C.2.2.2.1
  have hw := C.2.2.2.2
  have hl : lv_has ls 4 [(0, .ref (a 0)), (1, .int p0), (2, .ref o)] := hl
  have hPX : va_P (gD G) vwCl (wX G a S) s.heap := P_tail hP
  refine lv_aload_n hx hb dL_dayOfWeek_0 rfl (lv_at hl 2 rfl) ?_
  refine lv_aload_n hx hb dL_dayOfWeek_1 rfl (lv_at hl 0 rfl) ?_
  refine lv_iload_n hx hb dL_dayOfWeek_2 rfl (lv_at hl 1 rfl) ?_
  refine thV (as := [.int p0]) (rest := [.ref o]) (cl := RX0) C (tI_X0_dayOfWeek l hl9 G a p0 hbad) F_X0_dayOfWeek rfl bw714 bw715 bw716 hE hS hA (va_recv hE.K hPX (ci := 2) (q0 := 0) rfl rfl) hl.1 dL_dayOfWeek_3 ⟨Nat.le_of_ble_eq_true rfl, Nat.le_of_ble_eq_true rfl⟩ rfl (Nat.le_of_ble_eq_true rfl) ⟨Nat.le_of_ble_eq_true rfl, Nat.le_of_ble_eq_true rfl⟩ (fun q9 ce H1 locs1 hz ho hS1 hce hcv hcl => ?_)
  refine vx_catch hown [] ⟨0, 10, 13, 25⟩ [] (hT.trans rfl) (fun z hz => nomatch hz) (by decide) (by decide) (hw _ bw382) (castXX (hw _ bw391)) hce hcv hcl ?_
  refine lv_astore_n (lv' := [(3, .ref q9), (0, .ref (a 0)), (1, .int p0), (2, .ref o)]) hx hb dL_dayOfWeek_13 rfl hl (Nat.le_of_ble_eq_true rfl) rfl (fun ls hl => ?_)
  refine lv_iconst (v := (1 : Int32)) hx hb dL_dayOfWeek_14 (by decide) ?_
  exact we_h hx hb hr hk (P_old hP ho) hD hS1 (Nat.le_of_ble_eq_true rfl) (Nat.le_of_ble_eq_true rfl) dL_dayOfWeek_15

set_option maxRecDepth 100000 in
set_option maxHeartbeats 4000000 in
theorem hG_dayOfWeek (l : Launch) (hl9 : l.stackTraces = false) (G : GT) (a : Nat → Nat) (o : Nat) (n : Int64) (sv : Value) (S : SX) (p0 : Int32) (h0 : vp_in p0 6) : HE l G yL_dayOfWeek cL_dayOfWeek 4 [(0, 10, 13, 25)] 10 0 0 [.ref (a 0), .int p0, .ref o] (wH G a o n sv S) (wH G a o ((fX0_dayOfWeek S p0).toInt64) sv S) (0 : Int32) := by
  refine HE.ofW (own := RL) rfl (by decide +kernel) (Nat.le_of_ble_eq_true rfl) ?_
  intro p e s m below meth c A C hr hk hT hN hE hP hD hA hAB hS ls hl
  have hx := C.1
  have hb := C.2.1
  have hown := C.2.2.2.1
  have hw := C.2.2.2.2
  have hl : lv_has ls 4 [(0, .ref (a 0)), (1, .int p0), (2, .ref o)] := hl
  have hPX : va_P (gD G) vwCl (wX G a S) s.heap := P_tail hP
  refine lv_aload_n hx hb dL_dayOfWeek_0 rfl (lv_at hl 2 rfl) ?_
  refine lv_aload_n hx hb dL_dayOfWeek_1 rfl (lv_at hl 0 rfl) ?_
  refine lv_iload_n hx hb dL_dayOfWeek_2 rfl (lv_at hl 1 rfl) ?_
  refine rcVi (as := [.int p0]) (rest := [.ref o]) (cl := RX0) C (c_X0_dayOfWeek l G a S p0 h0) F_X0_dayOfWeek rfl bw714 bw715 bw716 hE hPX (va_recv hE.K hPX (ci := 2) (q0 := 0) rfl rfl) hl.1 dL_dayOfWeek_3 ⟨Nat.le_of_ble_eq_true rfl, Nat.le_of_ble_eq_true rfl⟩ rfl (Nat.le_of_ble_eq_true rfl) ⟨Nat.le_of_ble_eq_true rfl, Nat.le_of_ble_eq_true rfl⟩ ?_
  refine lv_i2l (v := ((fX0_dayOfWeek S p0).toInt64)) hx hb dL_dayOfWeek_6 (by first | rfl | decide) ?_
  refine va_putN (D := gD G) (cl := vwCl) (tys := gT G) (ci := 3) (v := .long ((fX0_dayOfWeek S p0).toInt64)) (ty := .long) (C := RX1) (T := TX1) (N := 2) hx hb hw inB_X1 tyX1 tyX1_ok nmX1 hown hE.K hP hD hS 0 rfl rfl 0 (by decide) (va_Nw.use rfl hN.2.1) (fun _ h9 => h9) rfl (by decide +kernel) rfl rfl (Nat.le_of_ble_eq_true rfl) dL_dayOfWeek_7 (fun H locs hP hD hS => ?_)
  refine lv_goto (tgt := 16) hx hb dL_dayOfWeek_10 (by decide) ?_
  refine lv_iconst (v := (0 : Int32)) hx hb dL_dayOfWeek_16 (by decide) ?_
  exact we_h hx hb hr hk hP hD hS (Nat.le_of_ble_eq_true rfl) (Nat.le_of_ble_eq_true rfl) dL_dayOfWeek_17

set_option maxRecDepth 100000 in
set_option maxHeartbeats 4000000 in
theorem hI_hour (l : Launch) (hl9 : l.stackTraces = false) (G : GT) (a : Nat → Nat) (o : Nat) (n : Int64) (sv : Value) (S : SX) (p0 : Int32) (hbad : ¬ (vp_in p0 6)) : HE l G yL_hour cL_hour 4 [(0, 10, 13, 25)] 10 1 6 [.ref (a 0), .int p0, .ref o] (wH G a o n sv S) (wH G a o n sv S) (1 : Int32) := by
  refine HE.ofW (own := RL) rfl (by decide +kernel) (Nat.le_of_ble_eq_true rfl) ?_
  intro p e s m below meth c A C hr hk hT hN hE hP hD hA hAB hS ls hl
  have hx := C.1
  have hb := C.2.1
  have hown := C.2.2.2.1
  have hw := C.2.2.2.2
  have hl : lv_has ls 4 [(0, .ref (a 0)), (1, .int p0), (2, .ref o)] := hl
  have hPX : va_P (gD G) vwCl (wX G a S) s.heap := P_tail hP
  refine lv_aload_n hx hb dL_hour_0 rfl (lv_at hl 2 rfl) ?_
  refine lv_aload_n hx hb dL_hour_1 rfl (lv_at hl 0 rfl) ?_
  refine lv_iload_n hx hb dL_hour_2 rfl (lv_at hl 1 rfl) ?_
  refine thV (as := [.int p0]) (rest := [.ref o]) (cl := RX0) C (tI_X0_hour l hl9 G a p0 hbad) F_X0_hour rfl bw721 bw722 bw723 hE hS hA (va_recv hE.K hPX (ci := 2) (q0 := 0) rfl rfl) hl.1 dL_hour_3 ⟨Nat.le_of_ble_eq_true rfl, Nat.le_of_ble_eq_true rfl⟩ rfl (Nat.le_of_ble_eq_true rfl) ⟨Nat.le_of_ble_eq_true rfl, Nat.le_of_ble_eq_true rfl⟩ (fun q9 ce H1 locs1 hz ho hS1 hce hcv hcl => ?_)
  refine vx_catch hown [] ⟨0, 10, 13, 25⟩ [] (hT.trans rfl) (fun z hz => nomatch hz) (by decide) (by decide) (hw _ bw382) (castXX (hw _ bw391)) hce hcv hcl ?_
  refine lv_astore_n (lv' := [(3, .ref q9), (0, .ref (a 0)), (1, .int p0), (2, .ref o)]) hx hb dL_hour_13 rfl hl (Nat.le_of_ble_eq_true rfl) rfl (fun ls hl => ?_)
  refine lv_iconst (v := (1 : Int32)) hx hb dL_hour_14 (by decide) ?_
  exact we_h hx hb hr hk (P_old hP ho) hD hS1 (Nat.le_of_ble_eq_true rfl) (Nat.le_of_ble_eq_true rfl) dL_hour_15

set_option maxRecDepth 100000 in
set_option maxHeartbeats 4000000 in
theorem hG_hour (l : Launch) (hl9 : l.stackTraces = false) (G : GT) (a : Nat → Nat) (o : Nat) (n : Int64) (sv : Value) (S : SX) (p0 : Int32) (h0 : vp_in p0 6) : HE l G yL_hour cL_hour 4 [(0, 10, 13, 25)] 10 0 0 [.ref (a 0), .int p0, .ref o] (wH G a o n sv S) (wH G a o ((fX0_hour S p0).toInt64) sv S) (0 : Int32) := by
  refine HE.ofW (own := RL) rfl (by decide +kernel) (Nat.le_of_ble_eq_true rfl) ?_
  intro p e s m below meth c A C hr hk hT hN hE hP hD hA hAB hS ls hl
  have hx := C.1
  have hb := C.2.1
  have hown := C.2.2.2.1
  have hw := C.2.2.2.2
  have hl : lv_has ls 4 [(0, .ref (a 0)), (1, .int p0), (2, .ref o)] := hl
  have hPX : va_P (gD G) vwCl (wX G a S) s.heap := P_tail hP
  refine lv_aload_n hx hb dL_hour_0 rfl (lv_at hl 2 rfl) ?_
  refine lv_aload_n hx hb dL_hour_1 rfl (lv_at hl 0 rfl) ?_
  refine lv_iload_n hx hb dL_hour_2 rfl (lv_at hl 1 rfl) ?_
  refine rcVi (as := [.int p0]) (rest := [.ref o]) (cl := RX0) C (c_X0_hour l G a S p0 h0) F_X0_hour rfl bw721 bw722 bw723 hE hPX (va_recv hE.K hPX (ci := 2) (q0 := 0) rfl rfl) hl.1 dL_hour_3 ⟨Nat.le_of_ble_eq_true rfl, Nat.le_of_ble_eq_true rfl⟩ rfl (Nat.le_of_ble_eq_true rfl) ⟨Nat.le_of_ble_eq_true rfl, Nat.le_of_ble_eq_true rfl⟩ ?_
  refine lv_i2l (v := ((fX0_hour S p0).toInt64)) hx hb dL_hour_6 (by first | rfl | decide) ?_
  refine va_putN (D := gD G) (cl := vwCl) (tys := gT G) (ci := 3) (v := .long ((fX0_hour S p0).toInt64)) (ty := .long) (C := RX1) (T := TX1) (N := 2) hx hb hw inB_X1 tyX1 tyX1_ok nmX1 hown hE.K hP hD hS 0 rfl rfl 0 (by decide) (va_Nw.use rfl hN.2.1) (fun _ h9 => h9) rfl (by decide +kernel) rfl rfl (Nat.le_of_ble_eq_true rfl) dL_hour_7 (fun H locs hP hD hS => ?_)
  refine lv_goto (tgt := 16) hx hb dL_hour_10 (by decide) ?_
  refine lv_iconst (v := (0 : Int32)) hx hb dL_hour_16 (by decide) ?_
  exact we_h hx hb hr hk hP hD hS (Nat.le_of_ble_eq_true rfl) (Nat.le_of_ble_eq_true rfl) dL_hour_17

set_option maxRecDepth 100000 in
set_option maxHeartbeats 4000000 in
theorem hI_minute (l : Launch) (hl9 : l.stackTraces = false) (G : GT) (a : Nat → Nat) (o : Nat) (n : Int64) (sv : Value) (S : SX) (p0 : Int32) (hbad : ¬ (vp_in p0 6)) : HE l G yL_minute cL_minute 4 [(0, 10, 13, 25)] 10 1 6 [.ref (a 0), .int p0, .ref o] (wH G a o n sv S) (wH G a o n sv S) (1 : Int32) := by
  refine HE.ofW (own := RL) rfl (by decide +kernel) (Nat.le_of_ble_eq_true rfl) ?_
  intro p e s m below meth c A C hr hk hT hN hE hP hD hA hAB hS ls hl
  have hx := C.1
  have hb := C.2.1
  have hown := C.2.2.2.1
  have hw := C.2.2.2.2
  have hl : lv_has ls 4 [(0, .ref (a 0)), (1, .int p0), (2, .ref o)] := hl
  have hPX : va_P (gD G) vwCl (wX G a S) s.heap := P_tail hP
  refine lv_aload_n hx hb dL_minute_0 rfl (lv_at hl 2 rfl) ?_
  refine lv_aload_n hx hb dL_minute_1 rfl (lv_at hl 0 rfl) ?_
  refine lv_iload_n hx hb dL_minute_2 rfl (lv_at hl 1 rfl) ?_
  refine thV (as := [.int p0]) (rest := [.ref o]) (cl := RX0) C (tI_X0_minute l hl9 G a p0 hbad) F_X0_minute rfl bw728 bw729 bw730 hE hS hA (va_recv hE.K hPX (ci := 2) (q0 := 0) rfl rfl) hl.1 dL_minute_3 ⟨Nat.le_of_ble_eq_true rfl, Nat.le_of_ble_eq_true rfl⟩ rfl (Nat.le_of_ble_eq_true rfl) ⟨Nat.le_of_ble_eq_true rfl, Nat.le_of_ble_eq_true rfl⟩ (fun q9 ce H1 locs1 hz ho hS1 hce hcv hcl => ?_)
  refine vx_catch hown [] ⟨0, 10, 13, 25⟩ [] (hT.trans rfl) (fun z hz => nomatch hz) (by decide) (by decide) (hw _ bw382) (castXX (hw _ bw391)) hce hcv hcl ?_
  refine lv_astore_n (lv' := [(3, .ref q9), (0, .ref (a 0)), (1, .int p0), (2, .ref o)]) hx hb dL_minute_13 rfl hl (Nat.le_of_ble_eq_true rfl) rfl (fun ls hl => ?_)
  refine lv_iconst (v := (1 : Int32)) hx hb dL_minute_14 (by decide) ?_
  exact we_h hx hb hr hk (P_old hP ho) hD hS1 (Nat.le_of_ble_eq_true rfl) (Nat.le_of_ble_eq_true rfl) dL_minute_15

set_option maxRecDepth 100000 in
set_option maxHeartbeats 4000000 in
theorem hG_minute (l : Launch) (hl9 : l.stackTraces = false) (G : GT) (a : Nat → Nat) (o : Nat) (n : Int64) (sv : Value) (S : SX) (p0 : Int32) (h0 : vp_in p0 6) : HE l G yL_minute cL_minute 4 [(0, 10, 13, 25)] 10 0 0 [.ref (a 0), .int p0, .ref o] (wH G a o n sv S) (wH G a o ((fX0_minute S p0).toInt64) sv S) (0 : Int32) := by
  refine HE.ofW (own := RL) rfl (by decide +kernel) (Nat.le_of_ble_eq_true rfl) ?_
  intro p e s m below meth c A C hr hk hT hN hE hP hD hA hAB hS ls hl
  have hx := C.1
  have hb := C.2.1
  have hown := C.2.2.2.1
  have hw := C.2.2.2.2
  have hl : lv_has ls 4 [(0, .ref (a 0)), (1, .int p0), (2, .ref o)] := hl
  have hPX : va_P (gD G) vwCl (wX G a S) s.heap := P_tail hP
  refine lv_aload_n hx hb dL_minute_0 rfl (lv_at hl 2 rfl) ?_
  refine lv_aload_n hx hb dL_minute_1 rfl (lv_at hl 0 rfl) ?_
  refine lv_iload_n hx hb dL_minute_2 rfl (lv_at hl 1 rfl) ?_
  refine rcVi (as := [.int p0]) (rest := [.ref o]) (cl := RX0) C (c_X0_minute l G a S p0 h0) F_X0_minute rfl bw728 bw729 bw730 hE hPX (va_recv hE.K hPX (ci := 2) (q0 := 0) rfl rfl) hl.1 dL_minute_3 ⟨Nat.le_of_ble_eq_true rfl, Nat.le_of_ble_eq_true rfl⟩ rfl (Nat.le_of_ble_eq_true rfl) ⟨Nat.le_of_ble_eq_true rfl, Nat.le_of_ble_eq_true rfl⟩ ?_
  refine lv_i2l (v := ((fX0_minute S p0).toInt64)) hx hb dL_minute_6 (by first | rfl | decide) ?_
  refine va_putN (D := gD G) (cl := vwCl) (tys := gT G) (ci := 3) (v := .long ((fX0_minute S p0).toInt64)) (ty := .long) (C := RX1) (T := TX1) (N := 2) hx hb hw inB_X1 tyX1 tyX1_ok nmX1 hown hE.K hP hD hS 0 rfl rfl 0 (by decide) (va_Nw.use rfl hN.2.1) (fun _ h9 => h9) rfl (by decide +kernel) rfl rfl (Nat.le_of_ble_eq_true rfl) dL_minute_7 (fun H locs hP hD hS => ?_)
  refine lv_goto (tgt := 16) hx hb dL_minute_10 (by decide) ?_
  refine lv_iconst (v := (0 : Int32)) hx hb dL_minute_16 (by decide) ?_
  exact we_h hx hb hr hk hP hD hS (Nat.le_of_ble_eq_true rfl) (Nat.le_of_ble_eq_true rfl) dL_minute_17

set_option maxRecDepth 100000 in
set_option maxHeartbeats 4000000 in
theorem hI_second (l : Launch) (hl9 : l.stackTraces = false) (G : GT) (a : Nat → Nat) (o : Nat) (n : Int64) (sv : Value) (S : SX) (p0 : Int32) (hbad : ¬ (vp_in p0 6)) : HE l G yL_second cL_second 4 [(0, 10, 13, 25)] 10 1 6 [.ref (a 0), .int p0, .ref o] (wH G a o n sv S) (wH G a o n sv S) (1 : Int32) := by
  refine HE.ofW (own := RL) rfl (by decide +kernel) (Nat.le_of_ble_eq_true rfl) ?_
  intro p e s m below meth c A C hr hk hT hN hE hP hD hA hAB hS ls hl
  have hx := C.1
  have hb := C.2.1
  have hown := C.2.2.2.1
  have hw := C.2.2.2.2
  have hl : lv_has ls 4 [(0, .ref (a 0)), (1, .int p0), (2, .ref o)] := hl
  have hPX : va_P (gD G) vwCl (wX G a S) s.heap := P_tail hP
  refine lv_aload_n hx hb dL_second_0 rfl (lv_at hl 2 rfl) ?_
  refine lv_aload_n hx hb dL_second_1 rfl (lv_at hl 0 rfl) ?_
  refine lv_iload_n hx hb dL_second_2 rfl (lv_at hl 1 rfl) ?_
  refine thV (as := [.int p0]) (rest := [.ref o]) (cl := RX0) C (tI_X0_second l hl9 G a p0 hbad) F_X0_second rfl bw735 bw736 bw737 hE hS hA (va_recv hE.K hPX (ci := 2) (q0 := 0) rfl rfl) hl.1 dL_second_3 ⟨Nat.le_of_ble_eq_true rfl, Nat.le_of_ble_eq_true rfl⟩ rfl (Nat.le_of_ble_eq_true rfl) ⟨Nat.le_of_ble_eq_true rfl, Nat.le_of_ble_eq_true rfl⟩ (fun q9 ce H1 locs1 hz ho hS1 hce hcv hcl => ?_)
  refine vx_catch hown [] ⟨0, 10, 13, 25⟩ [] (hT.trans rfl) (fun z hz => nomatch hz) (by decide) (by decide) (hw _ bw382) (castXX (hw _ bw391)) hce hcv hcl ?_
  refine lv_astore_n (lv' := [(3, .ref q9), (0, .ref (a 0)), (1, .int p0), (2, .ref o)]) hx hb dL_second_13 rfl hl (Nat.le_of_ble_eq_true rfl) rfl (fun ls hl => ?_)
  refine lv_iconst (v := (1 : Int32)) hx hb dL_second_14 (by decide) ?_
  exact we_h hx hb hr hk (P_old hP ho) hD hS1 (Nat.le_of_ble_eq_true rfl) (Nat.le_of_ble_eq_true rfl) dL_second_15

set_option maxRecDepth 100000 in
set_option maxHeartbeats 4000000 in
theorem hG_second (l : Launch) (hl9 : l.stackTraces = false) (G : GT) (a : Nat → Nat) (o : Nat) (n : Int64) (sv : Value) (S : SX) (p0 : Int32) (h0 : vp_in p0 6) : HE l G yL_second cL_second 4 [(0, 10, 13, 25)] 10 0 0 [.ref (a 0), .int p0, .ref o] (wH G a o n sv S) (wH G a o ((fX0_second S p0).toInt64) sv S) (0 : Int32) := by
  refine HE.ofW (own := RL) rfl (by decide +kernel) (Nat.le_of_ble_eq_true rfl) ?_
  intro p e s m below meth c A C hr hk hT hN hE hP hD hA hAB hS ls hl
  have hx := C.1
  have hb := C.2.1
  have hown := C.2.2.2.1
  have hw := C.2.2.2.2
  have hl : lv_has ls 4 [(0, .ref (a 0)), (1, .int p0), (2, .ref o)] := hl
  have hPX : va_P (gD G) vwCl (wX G a S) s.heap := P_tail hP
  refine lv_aload_n hx hb dL_second_0 rfl (lv_at hl 2 rfl) ?_
  refine lv_aload_n hx hb dL_second_1 rfl (lv_at hl 0 rfl) ?_
  refine lv_iload_n hx hb dL_second_2 rfl (lv_at hl 1 rfl) ?_
  refine rcVi (as := [.int p0]) (rest := [.ref o]) (cl := RX0) C (c_X0_second l G a S p0 h0) F_X0_second rfl bw735 bw736 bw737 hE hPX (va_recv hE.K hPX (ci := 2) (q0 := 0) rfl rfl) hl.1 dL_second_3 ⟨Nat.le_of_ble_eq_true rfl, Nat.le_of_ble_eq_true rfl⟩ rfl (Nat.le_of_ble_eq_true rfl) ⟨Nat.le_of_ble_eq_true rfl, Nat.le_of_ble_eq_true rfl⟩ ?_
  refine lv_i2l (v := ((fX0_second S p0).toInt64)) hx hb dL_second_6 (by first | rfl | decide) ?_
  refine va_putN (D := gD G) (cl := vwCl) (tys := gT G) (ci := 3) (v := .long ((fX0_second S p0).toInt64)) (ty := .long) (C := RX1) (T := TX1) (N := 2) hx hb hw inB_X1 tyX1 tyX1_ok nmX1 hown hE.K hP hD hS 0 rfl rfl 0 (by decide) (va_Nw.use rfl hN.2.1) (fun _ h9 => h9) rfl (by decide +kernel) rfl rfl (Nat.le_of_ble_eq_true rfl) dL_second_7 (fun H locs hP hD hS => ?_)
  refine lv_goto (tgt := 16) hx hb dL_second_10 (by decide) ?_
  refine lv_iconst (v := (0 : Int32)) hx hb dL_second_16 (by decide) ?_
  exact we_h hx hb hr hk hP hD hS (Nat.le_of_ble_eq_true rfl) (Nat.le_of_ble_eq_true rfl) dL_second_17

set_option maxRecDepth 100000 in
set_option maxHeartbeats 4000000 in
theorem hI_nano (l : Launch) (hl9 : l.stackTraces = false) (G : GT) (a : Nat → Nat) (o : Nat) (n : Int64) (sv : Value) (S : SX) (p0 : Int32) (hbad : ¬ (vp_in p0 6)) : HE l G yL_nano cL_nano 4 [(0, 10, 13, 25)] 10 1 6 [.ref (a 0), .int p0, .ref o] (wH G a o n sv S) (wH G a o n sv S) (1 : Int32) := by
  refine HE.ofW (own := RL) rfl (by decide +kernel) (Nat.le_of_ble_eq_true rfl) ?_
  intro p e s m below meth c A C hr hk hT hN hE hP hD hA hAB hS ls hl
  have hx := C.1
  have hb := C.2.1
  have hown := C.2.2.2.1
  have hw := C.2.2.2.2
  have hl : lv_has ls 4 [(0, .ref (a 0)), (1, .int p0), (2, .ref o)] := hl
  have hPX : va_P (gD G) vwCl (wX G a S) s.heap := P_tail hP
  refine lv_aload_n hx hb dL_nano_0 rfl (lv_at hl 2 rfl) ?_
  refine lv_aload_n hx hb dL_nano_1 rfl (lv_at hl 0 rfl) ?_
  refine lv_iload_n hx hb dL_nano_2 rfl (lv_at hl 1 rfl) ?_
  refine thV (as := [.int p0]) (rest := [.ref o]) (cl := RX0) C (tI_X0_nano l hl9 G a p0 hbad) F_X0_nano rfl bw742 bw743 bw744 hE hS hA (va_recv hE.K hPX (ci := 2) (q0 := 0) rfl rfl) hl.1 dL_nano_3 ⟨Nat.le_of_ble_eq_true rfl, Nat.le_of_ble_eq_true rfl⟩ rfl (Nat.le_of_ble_eq_true rfl) ⟨Nat.le_of_ble_eq_true rfl, Nat.le_of_ble_eq_true rfl⟩ (fun q9 ce H1 locs1 hz ho hS1 hce hcv hcl => ?_)
  refine vx_catch hown [] ⟨0, 10, 13, 25⟩ [] (hT.trans rfl) (fun z hz => nomatch hz) (by decide) (by decide) (hw _ bw382) (castXX (hw _ bw391)) hce hcv hcl ?_
  refine lv_astore_n (lv' := [(3, .ref q9), (0, .ref (a 0)), (1, .int p0), (2, .ref o)]) hx hb dL_nano_13 rfl hl (Nat.le_of_ble_eq_true rfl) rfl (fun ls hl => ?_)
  refine lv_iconst (v := (1 : Int32)) hx hb dL_nano_14 (by decide) ?_
  exact we_h hx hb hr hk (P_old hP ho) hD hS1 (Nat.le_of_ble_eq_true rfl) (Nat.le_of_ble_eq_true rfl) dL_nano_15

set_option maxRecDepth 100000 in
set_option maxHeartbeats 4000000 in
theorem hG_nano (l : Launch) (hl9 : l.stackTraces = false) (G : GT) (a : Nat → Nat) (o : Nat) (n : Int64) (sv : Value) (S : SX) (p0 : Int32) (h0 : vp_in p0 6) : HE l G yL_nano cL_nano 4 [(0, 10, 13, 25)] 10 0 0 [.ref (a 0), .int p0, .ref o] (wH G a o n sv S) (wH G a o ((fX0_nano S p0).toInt64) sv S) (0 : Int32) := by
  refine HE.ofW (own := RL) rfl (by decide +kernel) (Nat.le_of_ble_eq_true rfl) ?_
  intro p e s m below meth c A C hr hk hT hN hE hP hD hA hAB hS ls hl
  have hx := C.1
  have hb := C.2.1
  have hown := C.2.2.2.1
  have hw := C.2.2.2.2
  have hl : lv_has ls 4 [(0, .ref (a 0)), (1, .int p0), (2, .ref o)] := hl
  have hPX : va_P (gD G) vwCl (wX G a S) s.heap := P_tail hP
  refine lv_aload_n hx hb dL_nano_0 rfl (lv_at hl 2 rfl) ?_
  refine lv_aload_n hx hb dL_nano_1 rfl (lv_at hl 0 rfl) ?_
  refine lv_iload_n hx hb dL_nano_2 rfl (lv_at hl 1 rfl) ?_
  refine rcVi (as := [.int p0]) (rest := [.ref o]) (cl := RX0) C (c_X0_nano l G a S p0 h0) F_X0_nano rfl bw742 bw743 bw744 hE hPX (va_recv hE.K hPX (ci := 2) (q0 := 0) rfl rfl) hl.1 dL_nano_3 ⟨Nat.le_of_ble_eq_true rfl, Nat.le_of_ble_eq_true rfl⟩ rfl (Nat.le_of_ble_eq_true rfl) ⟨Nat.le_of_ble_eq_true rfl, Nat.le_of_ble_eq_true rfl⟩ ?_
  refine lv_i2l (v := ((fX0_nano S p0).toInt64)) hx hb dL_nano_6 (by first | rfl | decide) ?_
  refine va_putN (D := gD G) (cl := vwCl) (tys := gT G) (ci := 3) (v := .long ((fX0_nano S p0).toInt64)) (ty := .long) (C := RX1) (T := TX1) (N := 2) hx hb hw inB_X1 tyX1 tyX1_ok nmX1 hown hE.K hP hD hS 0 rfl rfl 0 (by decide) (va_Nw.use rfl hN.2.1) (fun _ h9 => h9) rfl (by decide +kernel) rfl rfl (Nat.le_of_ble_eq_true rfl) dL_nano_7 (fun H locs hP hD hS => ?_)
  refine lv_goto (tgt := 16) hx hb dL_nano_10 (by decide) ?_
  refine lv_iconst (v := (0 : Int32)) hx hb dL_nano_16 (by decide) ?_
  exact we_h hx hb hr hk hP hD hS (Nat.le_of_ble_eq_true rfl) (Nat.le_of_ble_eq_true rfl) dL_nano_17

set_option maxRecDepth 100000 in
set_option maxHeartbeats 4000000 in
theorem hI_day (l : Launch) (hl9 : l.stackTraces = false) (G : GT) (a : Nat → Nat) (o : Nat) (n : Int64) (sv : Value) (S : SX) (p0 : Int32) (hbad : ¬ (vp_in p0 6)) : HE l G yL_day cL_day 4 [(0, 10, 13, 25)] 10 1 6 [.ref (a 0), .int p0, .ref o] (wH G a o n sv S) (wH G a o n sv S) (1 : Int32) := by
  refine HE.ofW (own := RL) rfl (by decide +kernel) (Nat.le_of_ble_eq_true rfl) ?_
  intro p e s m below meth c A C hr hk hT hN hE hP hD hA hAB hS ls hl
  have hx := C.1
  have hb := C.2.1
  have hown := C.2.2.2.1
  have hw := C.2.2.2.2
  have hl : lv_has ls 4 [(0, .ref (a 0)), (1, .int p0), (2, .ref o)] := hl
  have hPX : va_P (gD G) vwCl (wX G a S) s.heap := P_tail hP
  refine lv_aload_n hx hb dL_day_0 rfl (lv_at hl 2 rfl) ?_
  refine lv_aload_n hx hb dL_day_1 rfl (lv_at hl 0 rfl) ?_
  refine lv_iload_n hx hb dL_day_2 rfl (lv_at hl 1 rfl) ?_
  refine thV (as := [.int p0]) (rest := [.ref o]) (cl := RX0) C (tI_X0_day l hl9 G a p0 hbad) F_X0_day rfl bw749 bw750 bw751 hE hS hA (va_recv hE.K hPX (ci := 2) (q0 := 0) rfl rfl) hl.1 dL_day_3 ⟨Nat.le_of_ble_eq_true rfl, Nat.le_of_ble_eq_true rfl⟩ rfl (Nat.le_of_ble_eq_true rfl) ⟨Nat.le_of_ble_eq_true rfl, Nat.le_of_ble_eq_true rfl⟩ (fun q9 ce H1 locs1 hz ho hS1 hce hcv hcl => ?_)
  refine vx_catch hown [] ⟨0, 10, 13, 25⟩ [] (hT.trans rfl) (fun z hz => nomatch hz) (by decide) (by decide) (hw _ bw382) (castXX (hw _ bw391)) hce hcv hcl ?_
  refine lv_astore_n (lv' := [(3, .ref q9), (0, .ref (a 0)), (1, .int p0), (2, .ref o)]) hx hb dL_day_13 rfl hl (Nat.le_of_ble_eq_true rfl) rfl (fun ls hl => ?_)
  refine lv_iconst (v := (1 : Int32)) hx hb dL_day_14 (by decide) ?_
  exact we_h hx hb hr hk (P_old hP ho) hD hS1 (Nat.le_of_ble_eq_true rfl) (Nat.le_of_ble_eq_true rfl) dL_day_15

