set_option maxRecDepth 100000 in
set_option maxHeartbeats 4000000 in
theorem hG_day (l : Launch) (hl9 : l.stackTraces = false) (G : GT) (a : Nat → Nat) (o : Nat) (n : Int64) (sv : Value) (S : SX) (p0 : Int32) (h0 : vp_in p0 6) : HE l G yL_day cL_day 4 [(0, 10, 13, 25)] 10 0 0 [.ref (a 0), .int p0, .ref o] (wH G a o n sv S) (wH G a o ((fX0_day S p0).toInt64) sv S) (0 : Int32) := by
  refine HE.ofW (own := RL) rfl (by decide +kernel) (Nat.le_of_ble_eq_true rfl) ?_
  intro p e s m below meth c A C hr hk hT hN hE hP hD hA hAB hS ls hl
  have hx := C.1
  have hb := C.2.1
  have hown := C.2.2.2.1
  have hw := C.2.2.2.2
  have hl : lv_has ls 4 [(0, .ref (a 0)), (1, .int p0), (2, .ref o)] := hl
  have hPX : va_P (gD G) vwCl (wX G a S) s.heap := P_tail hP
  refine lv_aload_n hx hb dL_day_0 rfl (lv_at hl 2 rfl) ?_
  refine lv_aload_n hx hb dL_day_1 rfl (lv_at hl 0 rfl) ?_
  refine lv_iload_n hx hb dL_day_2 rfl (lv_at hl 1 rfl) ?_
  refine rcVi (as := [.int p0]) (rest := [.ref o]) (cl := RX0) C (c_X0_day l G a S p0 h0) F_X0_day rfl bw749 bw750 bw751 hE hPX (va_recv hE.K hPX (ci := 2) (q0 := 0) rfl rfl) hl.1 dL_day_3 ⟨Nat.le_of_ble_eq_true rfl, Nat.le_of_ble_eq_true rfl⟩ rfl (Nat.le_of_ble_eq_true rfl) ⟨Nat.le_of_ble_eq_true rfl, Nat.le_of_ble_eq_true rfl⟩ ?_
  refine lv_i2l (v := ((fX0_day S p0).toInt64)) hx hb dL_day_6 (by first | rfl | decide) ?_
  refine va_putN (D := gD G) (cl := vwCl) (tys := gT G) (ci := 3) (v := .long ((fX0_day S p0).toInt64)) (ty := .long) (C := RX1) (T := TX1) (N := 2) hx hb hw inB_X1 tyX1 tyX1_ok nmX1 hown hE.K hP hD hS 0 rfl rfl 0 (by decide) (va_Nw.use rfl hN.2.1) (fun _ h9 => h9) rfl (by decide +kernel) rfl rfl (Nat.le_of_ble_eq_true rfl) dL_day_7 (fun H locs hP hD hS => ?_)
  refine lv_goto (tgt := 16) hx hb dL_day_10 (by decide) ?_
  refine lv_iconst (v := (0 : Int32)) hx hb dL_day_16 (by decide) ?_
  exact we_h hx hb hr hk hP hD hS (Nat.le_of_ble_eq_true rfl) (Nat.le_of_ble_eq_true rfl) dL_day_17

set_option maxRecDepth 100000 in
set_option maxHeartbeats 4000000 in
theorem hI_secondOfDay (l : Launch) (hl9 : l.stackTraces = false) (G : GT) (a : Nat → Nat) (o : Nat) (n : Int64) (sv : Value) (S : SX) (p0 : Int32) (hbad : ¬ (vp_in p0 6)) : HE l G yL_secondOfDay cL_secondOfDay 4 [(0, 10, 13, 25)] 10 1 6 [.ref (a 0), .int p0, .ref o] (wH G a o n sv S) (wH G a o n sv S) (1 : Int32) := by
  refine HE.ofW (own := RL) rfl (by decide +kernel) (Nat.le_of_ble_eq_true rfl) ?_
  intro p e s m below meth c A C hr hk hT hN hE hP hD hA hAB hS ls hl
  have hx := C.1
  have hb := C.2.1
  have hown := C.2.2.2.1
  have hw := C.2.2.2.2
  have hl : lv_has ls 4 [(0, .ref (a 0)), (1, .int p0), (2, .ref o)] := hl
  have hPX : va_P (gD G) vwCl (wX G a S) s.heap := P_tail hP
  refine lv_aload_n hx hb dL_secondOfDay_0 rfl (lv_at hl 2 rfl) ?_
  refine lv_aload_n hx hb dL_secondOfDay_1 rfl (lv_at hl 0 rfl) ?_
  refine lv_iload_n hx hb dL_secondOfDay_2 rfl (lv_at hl 1 rfl) ?_
  refine thV (as := [.int p0]) (rest := [.ref o]) (cl := RX0) C (tI_X0_secondOfDay l hl9 G a p0 hbad) F_X0_secondOfDay rfl bw756 bw757 bw758 hE hS hA (va_recv hE.K hPX (ci := 2) (q0 := 0) rfl rfl) hl.1 dL_secondOfDay_3 ⟨Nat.le_of_ble_eq_true rfl, Nat.le_of_ble_eq_true rfl⟩ rfl (Nat.le_of_ble_eq_true rfl) ⟨Nat.le_of_ble_eq_true rfl, Nat.le_of_ble_eq_true rfl⟩ (fun q9 ce H1 locs1 hz ho hS1 hce hcv hcl => ?_)
  refine vx_catch hown [] ⟨0, 10, 13, 25⟩ [] (hT.trans rfl) (fun z hz => nomatch hz) (by decide) (by decide) (hw _ bw382) (castXX (hw _ bw391)) hce hcv hcl ?_
  refine lv_astore_n (lv' := [(3, .ref q9), (0, .ref (a 0)), (1, .int p0), (2, .ref o)]) hx hb dL_secondOfDay_13 rfl hl (Nat.le_of_ble_eq_true rfl) rfl (fun ls hl => ?_)
  refine lv_iconst (v := (1 : Int32)) hx hb dL_secondOfDay_14 (by decide) ?_
  exact we_h hx hb hr hk (P_old hP ho) hD hS1 (Nat.le_of_ble_eq_true rfl) (Nat.le_of_ble_eq_true rfl) dL_secondOfDay_15

set_option maxRecDepth 100000 in
set_option maxHeartbeats 4000000 in
theorem hG_secondOfDay (l : Launch) (hl9 : l.stackTraces = false) (G : GT) (a : Nat → Nat) (o : Nat) (n : Int64) (sv : Value) (S : SX) (p0 : Int32) (h0 : vp_in p0 6) : HE l G yL_secondOfDay cL_secondOfDay 4 [(0, 10, 13, 25)] 10 0 0 [.ref (a 0), .int p0, .ref o] (wH G a o n sv S) (wH G a o ((fX0_secondOfDay S p0).toInt64) sv S) (0 : Int32) := by
  refine HE.ofW (own := RL) rfl (by decide +kernel) (Nat.le_of_ble_eq_true rfl) ?_
  intro p e s m below meth c A C hr hk hT hN hE hP hD hA hAB hS ls hl
  have hx := C.1
  have hb := C.2.1
  have hown := C.2.2.2.1
  have hw := C.2.2.2.2
  have hl : lv_has ls 4 [(0, .ref (a 0)), (1, .int p0), (2, .ref o)] := hl
  have hPX : va_P (gD G) vwCl (wX G a S) s.heap := P_tail hP
  refine lv_aload_n hx hb dL_secondOfDay_0 rfl (lv_at hl 2 rfl) ?_
  refine lv_aload_n hx hb dL_secondOfDay_1 rfl (lv_at hl 0 rfl) ?_
  refine lv_iload_n hx hb dL_secondOfDay_2 rfl (lv_at hl 1 rfl) ?_
  refine rcVi (as := [.int p0]) (rest := [.ref o]) (cl := RX0) C (c_X0_secondOfDay l G a S p0 h0) F_X0_secondOfDay rfl bw756 bw757 bw758 hE hPX (va_recv hE.K hPX (ci := 2) (q0 := 0) rfl rfl) hl.1 dL_secondOfDay_3 ⟨Nat.le_of_ble_eq_true rfl, Nat.le_of_ble_eq_true rfl⟩ rfl (Nat.le_of_ble_eq_true rfl) ⟨Nat.le_of_ble_eq_true rfl, Nat.le_of_ble_eq_true rfl⟩ ?_
  refine lv_i2l (v := ((fX0_secondOfDay S p0).toInt64)) hx hb dL_secondOfDay_6 (by first | rfl | decide) ?_
  refine va_putN (D := gD G) (cl := vwCl) (tys := gT G) (ci := 3) (v := .long ((fX0_secondOfDay S p0).toInt64)) (ty := .long) (C := RX1) (T := TX1) (N := 2) hx hb hw inB_X1 tyX1 tyX1_ok nmX1 hown hE.K hP hD hS 0 rfl rfl 0 (by decide) (va_Nw.use rfl hN.2.1) (fun _ h9 => h9) rfl (by decide +kernel) rfl rfl (Nat.le_of_ble_eq_true rfl) dL_secondOfDay_7 (fun H locs hP hD hS => ?_)
  refine lv_goto (tgt := 16) hx hb dL_secondOfDay_10 (by decide) ?_
  refine lv_iconst (v := (0 : Int32)) hx hb dL_secondOfDay_16 (by decide) ?_
  exact we_h hx hb hr hk hP hD hS (Nat.le_of_ble_eq_true rfl) (Nat.le_of_ble_eq_true rfl) dL_secondOfDay_17

set_option maxRecDepth 100000 in
set_option maxHeartbeats 4000000 in
theorem hI_lengthOfMonth (l : Launch) (hl9 : l.stackTraces = false) (G : GT) (a : Nat → Nat) (o : Nat) (n : Int64) (sv : Value) (S : SX) (p0 : Int32) (hbad : ¬ (vp_in p0 6)) : HE l G yL_lengthOfMonth cL_lengthOfMonth 4 [(0, 10, 13, 25)] 10 1 6 [.ref (a 0), .int p0, .ref o] (wH G a o n sv S) (wH G a o n sv S) (1 : Int32) := by
  refine HE.ofW (own := RL) rfl (by decide +kernel) (Nat.le_of_ble_eq_true rfl) ?_
  intro p e s m below meth c A C hr hk hT hN hE hP hD hA hAB hS ls hl
  have hx := C.1
  have hb := C.2.1
  have hown := C.2.2.2.1
  have hw := C.2.2.2.2
  have hl : lv_has ls 4 [(0, .ref (a 0)), (1, .int p0), (2, .ref o)] := hl
  have hPX : va_P (gD G) vwCl (wX G a S) s.heap := P_tail hP
  refine lv_aload_n hx hb dL_lengthOfMonth_0 rfl (lv_at hl 2 rfl) ?_
  refine lv_aload_n hx hb dL_lengthOfMonth_1 rfl (lv_at hl 0 rfl) ?_
  refine lv_iload_n hx hb dL_lengthOfMonth_2 rfl (lv_at hl 1 rfl) ?_
  refine thV (as := [.int p0]) (rest := [.ref o]) (cl := RX0) C (tI_X0_lengthOfMonth l hl9 G a p0 hbad) F_X0_lengthOfMonth rfl bw763 bw764 bw765 hE hS hA (va_recv hE.K hPX (ci := 2) (q0 := 0) rfl rfl) hl.1 dL_lengthOfMonth_3 ⟨Nat.le_of_ble_eq_true rfl, Nat.le_of_ble_eq_true rfl⟩ rfl (Nat.le_of_ble_eq_true rfl) ⟨Nat.le_of_ble_eq_true rfl, Nat.le_of_ble_eq_true rfl⟩ (fun q9 ce H1 locs1 hz ho hS1 hce hcv hcl => ?_)
  refine vx_catch hown [] ⟨0, 10, 13, 25⟩ [] (hT.trans rfl) (fun z hz => nomatch hz) (by decide) (by decide) (hw _ bw382) (castXX (hw _ bw391)) hce hcv hcl ?_
  refine lv_astore_n (lv' := [(3, .ref q9), (0, .ref (a 0)), (1, .int p0), (2, .ref o)]) hx hb dL_lengthOfMonth_13 rfl hl (Nat.le_of_ble_eq_true rfl) rfl (fun ls hl => ?_)
  refine lv_iconst (v := (1 : Int32)) hx hb dL_lengthOfMonth_14 (by decide) ?_
  exact we_h hx hb hr hk (P_old hP ho) hD hS1 (Nat.le_of_ble_eq_true rfl) (Nat.le_of_ble_eq_true rfl) dL_lengthOfMonth_15

set_option maxRecDepth 100000 in
set_option maxHeartbeats 4000000 in
theorem hG_lengthOfMonth (l : Launch) (hl9 : l.stackTraces = false) (G : GT) (a : Nat → Nat) (o : Nat) (n : Int64) (sv : Value) (S : SX) (p0 : Int32) (h0 : vp_in p0 6) : HE l G yL_lengthOfMonth cL_lengthOfMonth 4 [(0, 10, 13, 25)] 10 0 0 [.ref (a 0), .int p0, .ref o] (wH G a o n sv S) (wH G a o ((fX0_lengthOfMonth S p0).toInt64) sv S) (0 : Int32) := by
  refine HE.ofW (own := RL) rfl (by decide +kernel) (Nat.le_of_ble_eq_true rfl) ?_
  intro p e s m below meth c A C hr hk hT hN hE hP hD hA hAB hS ls hl
  have hx := C.1
  have hb := C.2.1
  have hown := C.2.2.2.1
  have hw := C.2.2.2.2
  have hl : lv_has ls 4 [(0, .ref (a 0)), (1, .int p0), (2, .ref o)] := hl
  have hPX : va_P (gD G) vwCl (wX G a S) s.heap := P_tail hP
  refine lv_aload_n hx hb dL_lengthOfMonth_0 rfl (lv_at hl 2 rfl) ?_
  refine lv_aload_n hx hb dL_lengthOfMonth_1 rfl (lv_at hl 0 rfl) ?_
  refine lv_iload_n hx hb dL_lengthOfMonth_2 rfl (lv_at hl 1 rfl) ?_
  refine rcVi (as := [.int p0]) (rest := [.ref o]) (cl := RX0) C (c_X0_lengthOfMonth l G a S p0 h0) F_X0_lengthOfMonth rfl bw763 bw764 bw765 hE hPX (va_recv hE.K hPX (ci := 2) (q0 := 0) rfl rfl) hl.1 dL_lengthOfMonth_3 ⟨Nat.le_of_ble_eq_true rfl, Nat.le_of_ble_eq_true rfl⟩ rfl (Nat.le_of_ble_eq_true rfl) ⟨Nat.le_of_ble_eq_true rfl, Nat.le_of_ble_eq_true rfl⟩ ?_
  refine lv_i2l (v := ((fX0_lengthOfMonth S p0).toInt64)) hx hb dL_lengthOfMonth_6 (by first | rfl | decide) ?_
  refine va_putN (D := gD G) (cl := vwCl) (tys := gT G) (ci := 3) (v := .long ((fX0_lengthOfMonth S p0).toInt64)) (ty := .long) (C := RX1) (T := TX1) (N := 2) hx hb hw inB_X1 tyX1 tyX1_ok nmX1 hown hE.K hP hD hS 0 rfl rfl 0 (by decide) (va_Nw.use rfl hN.2.1) (fun _ h9 => h9) rfl (by decide +kernel) rfl rfl (Nat.le_of_ble_eq_true rfl) dL_lengthOfMonth_7 (fun H locs hP hD hS => ?_)
  refine lv_goto (tgt := 16) hx hb dL_lengthOfMonth_10 (by decide) ?_
  refine lv_iconst (v := (0 : Int32)) hx hb dL_lengthOfMonth_16 (by decide) ?_
  exact we_h hx hb hr hk hP hD hS (Nat.le_of_ble_eq_true rfl) (Nat.le_of_ble_eq_true rfl) dL_lengthOfMonth_17

set_option maxRecDepth 100000 in
set_option maxHeartbeats 4000000 in
theorem hI_nanoOfDay (l : Launch) (hl9 : l.stackTraces = false) (G : GT) (a : Nat → Nat) (o : Nat) (n : Int64) (sv : Value) (S : SX) (p0 : Int32) (hbad : ¬ (vp_in p0 6)) : HE l G yL_nanoOfDay cL_nanoOfDay 4 [(0, 9, 12, 25)] 10 1 6 [.ref (a 0), .int p0, .ref o] (wH G a o n sv S) (wH G a o n sv S) (1 : Int32) := by
  refine HE.ofW (own := RL) rfl (by decide +kernel) (Nat.le_of_ble_eq_true rfl) ?_
  intro p e s m below meth c A C hr hk hT hN hE hP hD hA hAB hS ls hl
  have hx := C.1
  have hb := C.2.1
  have hown := C.2.2.2.1
  have hw := C.2.2.2.2
  have hl : lv_has ls 4 [(0, .ref (a 0)), (1, .int p0), (2, .ref o)] := hl
  have hPX : va_P (gD G) vwCl (wX G a S) s.heap := P_tail hP
  refine lv_aload_n hx hb dL_nanoOfDay_0 rfl (lv_at hl 2 rfl) ?_
  refine lv_aload_n hx hb dL_nanoOfDay_1 rfl (lv_at hl 0 rfl) ?_
  refine lv_iload_n hx hb dL_nanoOfDay_2 rfl (lv_at hl 1 rfl) ?_
  refine thV (as := [.int p0]) (rest := [.ref o]) (cl := RX0) C (tI_X0_nanoOfDay l hl9 G a p0 hbad) F_X0_nanoOfDay rfl bw770 bw771 bw772 hE hS hA (va_recv hE.K hPX (ci := 2) (q0 := 0) rfl rfl) hl.1 dL_nanoOfDay_3 ⟨Nat.le_of_ble_eq_true rfl, Nat.le_of_ble_eq_true rfl⟩ rfl (Nat.le_of_ble_eq_true rfl) ⟨Nat.le_of_ble_eq_true rfl, Nat.le_of_ble_eq_true rfl⟩ (fun q9 ce H1 locs1 hz ho hS1 hce hcv hcl => ?_)
  refine vx_catch hown [] ⟨0, 9, 12, 25⟩ [] (hT.trans rfl) (fun z hz => nomatch hz) (by decide) (by decide) (hw _ bw382) (castXX (hw _ bw391)) hce hcv hcl ?_
  refine lv_astore_n (lv' := [(3, .ref q9), (0, .ref (a 0)), (1, .int p0), (2, .ref o)]) hx hb dL_nanoOfDay_12 rfl hl (Nat.le_of_ble_eq_true rfl) rfl (fun ls hl => ?_)
  refine lv_iconst (v := (1 : Int32)) hx hb dL_nanoOfDay_13 (by decide) ?_
  exact we_h hx hb hr hk (P_old hP ho) hD hS1 (Nat.le_of_ble_eq_true rfl) (Nat.le_of_ble_eq_true rfl) dL_nanoOfDay_14

set_option maxRecDepth 100000 in
set_option maxHeartbeats 4000000 in
theorem hI_isLeap (l : Launch) (hl9 : l.stackTraces = false) (G : GT) (a : Nat → Nat) (o : Nat) (n : Int64) (sv : Value) (S : SX) (p0 : Int32) (hbad : ¬ (vp_in p0 6)) : HE l G yL_isLeap cL_isLeap 4 [(0, 17, 20, 25)] 10 1 6 [.ref (a 0), .int p0, .ref o] (wH G a o n sv S) (wH G a o n sv S) (1 : Int32) := by
  refine HE.ofW (own := RL) rfl (by decide +kernel) (Nat.le_of_ble_eq_true rfl) ?_
  intro p e s m below meth c A C hr hk hT hN hE hP hD hA hAB hS ls hl
  have hx := C.1
  have hb := C.2.1
  have hown := C.2.2.2.1
  have hw := C.2.2.2.2
  have hl : lv_has ls 4 [(0, .ref (a 0)), (1, .int p0), (2, .ref o)] := hl
  have hPX : va_P (gD G) vwCl (wX G a S) s.heap := P_tail hP
  refine lv_aload_n hx hb dL_isLeap_0 rfl (lv_at hl 2 rfl) ?_
  refine lv_aload_n hx hb dL_isLeap_1 rfl (lv_at hl 0 rfl) ?_
  refine lv_iload_n hx hb dL_isLeap_2 rfl (lv_at hl 1 rfl) ?_
  refine thV (as := [.int p0]) (rest := [.ref o]) (cl := RX0) C (tI_X0_isLeap l hl9 G a p0 hbad) F_X0_isLeap rfl bw1077 bw1078 bw1079 hE hS hA (va_recv hE.K hPX (ci := 2) (q0 := 0) rfl rfl) hl.1 dL_isLeap_3 ⟨Nat.le_of_ble_eq_true rfl, Nat.le_of_ble_eq_true rfl⟩ rfl (Nat.le_of_ble_eq_true rfl) ⟨Nat.le_of_ble_eq_true rfl, Nat.le_of_ble_eq_true rfl⟩ (fun q9 ce H1 locs1 hz ho hS1 hce hcv hcl => ?_)
  refine vx_catch hown [] ⟨0, 17, 20, 25⟩ [] (hT.trans rfl) (fun z hz => nomatch hz) (by decide) (by decide) (hw _ bw382) (castXX (hw _ bw391)) hce hcv hcl ?_
  refine lv_astore_n (lv' := [(3, .ref q9), (0, .ref (a 0)), (1, .int p0), (2, .ref o)]) hx hb dL_isLeap_20 rfl hl (Nat.le_of_ble_eq_true rfl) rfl (fun ls hl => ?_)
  refine lv_iconst (v := (1 : Int32)) hx hb dL_isLeap_21 (by decide) ?_
  exact we_h hx hb hr hk (P_old hP ho) hD hS1 (Nat.le_of_ble_eq_true rfl) (Nat.le_of_ble_eq_true rfl) dL_isLeap_22

set_option maxRecDepth 100000 in
set_option maxHeartbeats 4000000 in
theorem hG_isLeap (l : Launch) (hl9 : l.stackTraces = false) (G : GT) (a : Nat → Nat) (o : Nat) (n : Int64) (sv : Value) (S : SX) (p0 : Int32) (h0 : vp_in p0 6) : HE l G yL_isLeap cL_isLeap 4 [(0, 17, 20, 25)] 10 0 0 [.ref (a 0), .int p0, .ref o] (wH G a o n sv S) (wH G a o (fz9 (fX0_isLeap S p0)) sv S) (0 : Int32) := by
  refine HE.ofW (own := RL) rfl (by decide +kernel) (Nat.le_of_ble_eq_true rfl) ?_
  intro p e s m below meth c A C hr hk hT hN hE hP hD hA hAB hS ls hl
  have hx := C.1
  have hb := C.2.1
  have hown := C.2.2.2.1
  have hw := C.2.2.2.2
  have hl : lv_has ls 4 [(0, .ref (a 0)), (1, .int p0), (2, .ref o)] := hl
  have hPX : va_P (gD G) vwCl (wX G a S) s.heap := P_tail hP
  refine lv_aload_n hx hb dL_isLeap_0 rfl (lv_at hl 2 rfl) ?_
  refine lv_aload_n hx hb dL_isLeap_1 rfl (lv_at hl 0 rfl) ?_
  refine lv_iload_n hx hb dL_isLeap_2 rfl (lv_at hl 1 rfl) ?_
  refine rcVi (as := [.int p0]) (rest := [.ref o]) (cl := RX0) C (c_X0_isLeap l G a S p0 h0) F_X0_isLeap rfl bw1077 bw1078 bw1079 hE hPX (va_recv hE.K hPX (ci := 2) (q0 := 0) rfl rfl) hl.1 dL_isLeap_3 ⟨Nat.le_of_ble_eq_true rfl, Nat.le_of_ble_eq_true rfl⟩ rfl (Nat.le_of_ble_eq_true rfl) ⟨Nat.le_of_ble_eq_true rfl, Nat.le_of_ble_eq_true rfl⟩ ?_
  refine lv_if_eq (tgt := 13) hx hb dL_isLeap_6 (by decide) (fun c_1 => ?_) (fun c_1 => ?_)
  · refine lv_lconst (v := (0 : Int64)) hx hb dL_isLeap_13 (by decide) ?_
    refine va_putN (D := gD G) (cl := vwCl) (tys := gT G) (ci := 3) (v := .long (0 : Int64)) (ty := .long) (C := RX1) (T := TX1) (N := 2) hx hb hw inB_X1 tyX1 tyX1_ok nmX1 hown hE.K hP hD hS 0 rfl rfl 0 (by decide) (va_Nw.use rfl hN.2.1) (fun _ h9 => h9) rfl (by decide +kernel) rfl rfl (Nat.le_of_ble_eq_true rfl) dL_isLeap_14 (fun H locs hP hD hS => ?_)
    refine lv_goto (tgt := 23) hx hb dL_isLeap_17 (by decide) ?_
    refine lv_iconst (v := (0 : Int32)) hx hb dL_isLeap_23 (by decide) ?_
    rw [show fz9 (fX0_isLeap S p0) = 0 from if_pos c_1]
    exact we_h hx hb hr hk hP hD hS (Nat.le_of_ble_eq_true rfl) (Nat.le_of_ble_eq_true rfl) dL_isLeap_24
  · refine lv_lconst (v := (1 : Int64)) hx hb dL_isLeap_9 (by decide) ?_
    refine lv_goto (tgt := 14) hx hb dL_isLeap_10 (by decide) ?_
    refine va_putN (D := gD G) (cl := vwCl) (tys := gT G) (ci := 3) (v := .long (1 : Int64)) (ty := .long) (C := RX1) (T := TX1) (N := 2) hx hb hw inB_X1 tyX1 tyX1_ok nmX1 hown hE.K hP hD hS 0 rfl rfl 0 (by decide) (va_Nw.use rfl hN.2.1) (fun _ h9 => h9) rfl (by decide +kernel) rfl rfl (Nat.le_of_ble_eq_true rfl) dL_isLeap_14 (fun H locs hP hD hS => ?_)
    refine lv_goto (tgt := 23) hx hb dL_isLeap_17 (by decide) ?_
    refine lv_iconst (v := (0 : Int32)) hx hb dL_isLeap_23 (by decide) ?_
    rw [show fz9 (fX0_isLeap S p0) = 1 from if_neg c_1]
    exact we_h hx hb hr hk hP hD hS (Nat.le_of_ble_eq_true rfl) (Nat.le_of_ble_eq_true rfl) dL_isLeap_24

set_option maxRecDepth 100000 in
set_option maxHeartbeats 4000000 in
theorem hI_field (l : Launch) (hl9 : l.stackTraces = false) (G : GT) (a : Nat → Nat) (o : Nat) (n : Int64) (sv : Value) (S : SX) (p0 : Int32) (p1 : Int32) (hbad : ¬ (vp_in p0 6)) : HE l G yL_field cL_field 5 [(0, 10, 13, 25), (0, 10, 17, 19)] 10 1 6 [.ref (a 0), .int p0, .int p1, .ref o] (wH G a o n sv S) (wH G a o n sv S) (1 : Int32) := by
  refine HE.ofW (own := RL) rfl (by decide +kernel) (Nat.le_of_ble_eq_true rfl) ?_
  intro p e s m below meth c A C hr hk hT hN hE hP hD hA hAB hS ls hl
  have hx := C.1
  have hb := C.2.1
  have hown := C.2.2.2.1
  have hw := C.2.2.2.2
  have hl : lv_has ls 5 [(0, .ref (a 0)), (1, .int p0), (2, .int p1), (3, .ref o)] := hl
  have hPX : va_P (gD G) vwCl (wX G a S) s.heap := P_tail hP
  refine lv_aload_n hx hb dL_field_0 rfl (lv_at hl 3 rfl) ?_
  refine lv_aload_n hx hb dL_field_1 rfl (lv_at hl 0 rfl) ?_
  refine lv_iload_n hx hb dL_field_2 rfl (lv_at hl 1 rfl) ?_
  refine lv_iload_n hx hb dL_field_3 rfl (lv_at hl 2 rfl) ?_
  refine thV (as := [.int p0, .int p1]) (rest := [.ref o]) (cl := RX0) C (tI_X0_field l hl9 G a p0 p1 hbad) F_X0_field rfl bw1084 bw1085 bw1086 hE hS hA (va_recv hE.K hPX (ci := 2) (q0 := 0) rfl rfl) hl.1 dL_field_4 ⟨Nat.le_of_ble_eq_true rfl, Nat.le_of_ble_eq_true rfl⟩ rfl (Nat.le_of_ble_eq_true rfl) ⟨Nat.le_of_ble_eq_true rfl, Nat.le_of_ble_eq_true rfl⟩ (fun q9 ce H1 locs1 hz ho hS1 hce hcv hcl => ?_)
  refine vx_catch hown [] ⟨0, 10, 13, 25⟩ [⟨0, 10, 17, 19⟩] (hT.trans rfl) (fun z hz => nomatch hz) (by decide) (by decide) (hw _ bw382) (castXX (hw _ bw391)) hce hcv hcl ?_
  refine lv_astore (lv' := [(4, .ref q9), (0, .ref (a 0)), (1, .int p0), (2, .int p1), (3, .ref o)]) hx hb dL_field_13 hl (Nat.le_of_ble_eq_true rfl) rfl (fun ls hl => ?_)
  refine lv_iconst (v := (1 : Int32)) hx hb dL_field_15 (by decide) ?_
  exact we_h hx hb hr hk (P_old hP ho) hD hS1 (Nat.le_of_ble_eq_true rfl) (Nat.le_of_ble_eq_true rfl) dL_field_16

set_option maxRecDepth 100000 in
set_option maxHeartbeats 4000000 in
theorem hA_field (l : Launch) (hl9 : l.stackTraces = false) (G : GT) (a : Nat → Nat) (o : Nat) (n : Int64) (sv : Value) (S : SX) (p0 : Int32) (p1 : Int32) (h0 : vp_in p0 6) (hbad : ¬ ((¬ p1 < (0 : Int32) ∧ p1 ≤ (27 : Int32)))) : HE l G yL_field cL_field 5 [(0, 10, 13, 25), (0, 10, 17, 19)] 10 1 6 [.ref (a 0), .int p0, .int p1, .ref o] (wH G a o n sv S) (wH G a o n sv S) (2 : Int32) := by
  refine HE.ofW (own := RL) rfl (by decide +kernel) (Nat.le_of_ble_eq_true rfl) ?_
  intro p e s m below meth c A C hr hk hT hN hE hP hD hA hAB hS ls hl
  have hx := C.1
  have hb := C.2.1
  have hown := C.2.2.2.1
  have hw := C.2.2.2.2
  have hl : lv_has ls 5 [(0, .ref (a 0)), (1, .int p0), (2, .int p1), (3, .ref o)] := hl
  have hPX : va_P (gD G) vwCl (wX G a S) s.heap := P_tail hP
  refine lv_aload_n hx hb dL_field_0 rfl (lv_at hl 3 rfl) ?_
  refine lv_aload_n hx hb dL_field_1 rfl (lv_at hl 0 rfl) ?_
  refine lv_iload_n hx hb dL_field_2 rfl (lv_at hl 1 rfl) ?_
  refine lv_iload_n hx hb dL_field_3 rfl (lv_at hl 2 rfl) ?_
  refine thV (as := [.int p0, .int p1]) (rest := [.ref o]) (cl := RX0) C (tA_X0_field l hl9 G a p0 p1 h0 hbad) F_X0_field rfl bw1084 bw1085 bw1086 hE hS hA (va_recv hE.K hPX (ci := 2) (q0 := 0) rfl rfl) hl.1 dL_field_4 ⟨Nat.le_of_ble_eq_true rfl, Nat.le_of_ble_eq_true rfl⟩ rfl (Nat.le_of_ble_eq_true rfl) ⟨Nat.le_of_ble_eq_true rfl, Nat.le_of_ble_eq_true rfl⟩ (fun q9 ce H1 locs1 hz ho hS1 hce hcv hcl => ?_)
  refine vx_catch hown [⟨0, 10, 13, 25⟩] ⟨0, 10, 17, 19⟩ [] (hT.trans rfl) (fun z hz => by cases List.mem_singleton.mp hz; exact Or.inr ⟨by decide, eI, hw _ bw382, hN.1⟩) (by decide) (by decide) (hw _ bw303) (castXX (hw _ bw312)) hce hcv hcl ?_
  refine lv_astore (lv' := [(4, .ref q9), (0, .ref (a 0)), (1, .int p0), (2, .int p1), (3, .ref o)]) hx hb dL_field_17 hl (Nat.le_of_ble_eq_true rfl) rfl (fun ls hl => ?_)
  refine lv_iconst (v := (2 : Int32)) hx hb dL_field_19 (by decide) ?_
  exact we_h hx hb hr hk (P_old hP ho) hD hS1 (Nat.le_of_ble_eq_true rfl) (Nat.le_of_ble_eq_true rfl) dL_field_20

set_option maxRecDepth 100000 in
set_option maxHeartbeats 4000000 in
theorem hI_isSameAs (l : Launch) (hl9 : l.stackTraces = false) (G : GT) (a : Nat → Nat) (o : Nat) (n : Int64) (sv : Value) (S : SX) (p0 : Int32) (p1 : Int32) (hbad : ¬ (vp_in p0 6)) : HE l G yL_isSameAs cL_isSameAs 5 [(0, 18, 21, 25), (0, 18, 25, 19)] 10 1 6 [.ref (a 0), .int p0, .int p1, .ref o] (wH G a o n sv S) (wH G a o n sv S) (1 : Int32) := by
  refine HE.ofW (own := RL) rfl (by decide +kernel) (Nat.le_of_ble_eq_true rfl) ?_
  intro p e s m below meth c A C hr hk hT hN hE hP hD hA hAB hS ls hl
  have hx := C.1
  have hb := C.2.1
  have hown := C.2.2.2.1
  have hw := C.2.2.2.2
  have hl : lv_has ls 5 [(0, .ref (a 0)), (1, .int p0), (2, .int p1), (3, .ref o)] := hl
  have hPX : va_P (gD G) vwCl (wX G a S) s.heap := P_tail hP
  refine lv_aload_n hx hb dL_isSameAs_0 rfl (lv_at hl 3 rfl) ?_
  refine lv_aload_n hx hb dL_isSameAs_1 rfl (lv_at hl 0 rfl) ?_
  refine lv_iload_n hx hb dL_isSameAs_2 rfl (lv_at hl 1 rfl) ?_
  refine lv_iload_n hx hb dL_isSameAs_3 rfl (lv_at hl 2 rfl) ?_
  refine thV (as := [.int p0, .int p1]) (rest := [.ref o]) (cl := RX0) C (tI_X0_isSameAs l hl9 G a p0 p1 hbad) F_X0_isSameAs rfl bw1114 bw1115 bw1116 hE hS hA (va_recv hE.K hPX (ci := 2) (q0 := 0) rfl rfl) hl.1 dL_isSameAs_4 ⟨Nat.le_of_ble_eq_true rfl, Nat.le_of_ble_eq_true rfl⟩ rfl (Nat.le_of_ble_eq_true rfl) ⟨Nat.le_of_ble_eq_true rfl, Nat.le_of_ble_eq_true rfl⟩ (fun q9 ce H1 locs1 hz ho hS1 hce hcv hcl => ?_)
  refine vx_catch hown [] ⟨0, 18, 21, 25⟩ [⟨0, 18, 25, 19⟩] (hT.trans rfl) (fun z hz => nomatch hz) (by decide) (by decide) (hw _ bw382) (castXX (hw _ bw391)) hce hcv hcl ?_
  refine lv_astore (lv' := [(4, .ref q9), (0, .ref (a 0)), (1, .int p0), (2, .int p1), (3, .ref o)]) hx hb dL_isSameAs_21 hl (Nat.le_of_ble_eq_true rfl) rfl (fun ls hl => ?_)
  refine lv_iconst (v := (1 : Int32)) hx hb dL_isSameAs_23 (by decide) ?_
  exact we_h hx hb hr hk (P_old hP ho) hD hS1 (Nat.le_of_ble_eq_true rfl) (Nat.le_of_ble_eq_true rfl) dL_isSameAs_24

set_option maxRecDepth 100000 in
set_option maxHeartbeats 4000000 in
theorem hA_isSameAs (l : Launch) (hl9 : l.stackTraces = false) (G : GT) (a : Nat → Nat) (o : Nat) (n : Int64) (sv : Value) (S : SX) (p0 : Int32) (p1 : Int32) (h0 : vp_in p0 6) (hbad : ¬ ((¬ p1 < (0 : Int32) ∧ p1 ≤ (4 : Int32)))) : HE l G yL_isSameAs cL_isSameAs 5 [(0, 18, 21, 25), (0, 18, 25, 19)] 10 1 6 [.ref (a 0), .int p0, .int p1, .ref o] (wH G a o n sv S) (wH G a o n sv S) (2 : Int32) := by
  refine HE.ofW (own := RL) rfl (by decide +kernel) (Nat.le_of_ble_eq_true rfl) ?_
  intro p e s m below meth c A C hr hk hT hN hE hP hD hA hAB hS ls hl
  have hx := C.1
  have hb := C.2.1
  have hown := C.2.2.2.1
  have hw := C.2.2.2.2
  have hl : lv_has ls 5 [(0, .ref (a 0)), (1, .int p0), (2, .int p1), (3, .ref o)] := hl
  have hPX : va_P (gD G) vwCl (wX G a S) s.heap := P_tail hP
  refine lv_aload_n hx hb dL_isSameAs_0 rfl (lv_at hl 3 rfl) ?_
  refine lv_aload_n hx hb dL_isSameAs_1 rfl (lv_at hl 0 rfl) ?_
  refine lv_iload_n hx hb dL_isSameAs_2 rfl (lv_at hl 1 rfl) ?_
  refine lv_iload_n hx hb dL_isSameAs_3 rfl (lv_at hl 2 rfl) ?_
  refine thV (as := [.int p0, .int p1]) (rest := [.ref o]) (cl := RX0) C (tA_X0_isSameAs l hl9 G a p0 p1 h0 hbad) F_X0_isSameAs rfl bw1114 bw1115 bw1116 hE hS hA (va_recv hE.K hPX (ci := 2) (q0 := 0) rfl rfl) hl.1 dL_isSameAs_4 ⟨Nat.le_of_ble_eq_true rfl, Nat.le_of_ble_eq_true rfl⟩ rfl (Nat.le_of_ble_eq_true rfl) ⟨Nat.le_of_ble_eq_true rfl, Nat.le_of_ble_eq_true rfl⟩ (fun q9 ce H1 locs1 hz ho hS1 hce hcv hcl => ?_)
  refine vx_catch hown [⟨0, 18, 21, 25⟩] ⟨0, 18, 25, 19⟩ [] (hT.trans rfl) (fun z hz => by cases List.mem_singleton.mp hz; exact Or.inr ⟨by decide, eI, hw _ bw382, hN.1⟩) (by decide) (by decide) (hw _ bw303) (castXX (hw _ bw312)) hce hcv hcl ?_
  refine lv_astore (lv' := [(4, .ref q9), (0, .ref (a 0)), (1, .int p0), (2, .int p1), (3, .ref o)]) hx hb dL_isSameAs_25 hl (Nat.le_of_ble_eq_true rfl) rfl (fun ls hl => ?_)
  refine lv_iconst (v := (2 : Int32)) hx hb dL_isSameAs_27 (by decide) ?_
  exact we_h hx hb hr hk (P_old hP ho) hD hS1 (Nat.le_of_ble_eq_true rfl) (Nat.le_of_ble_eq_true rfl) dL_isSameAs_28

