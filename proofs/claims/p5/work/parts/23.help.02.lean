set_option maxRecDepth 100000 in
set_option maxHeartbeats 4000000 in
theorem hA_withMonth (l : Launch) (hl9 : l.stackTraces = false) (G : GT) (a : Nat → Nat) (o : Nat) (n : Int64) (sv : Value) (S : SX) (p0 : Int32) (p1 : Int32) (h0 : vp_in p0 6) (hbad : ¬ ((¬ p1 < (1 : Int32) ∧ p1 ≤ (12 : Int32)))) : HE l G yL_withMonth cL_withMonth 5 [(0, 11, 14, 25), (0, 11, 18, 19)] 10 1 6 [.ref (a 0), .int p0, .int p1, .ref o] (wH G a o n sv S) (wH G a o n sv S) (2 : Int32) := by
  refine HE.ofW (own := RL) rfl (by decide +kernel) (Nat.le_of_ble_eq_true rfl) ?_
  intro p e s m below meth c A C hr hk hT hN hE hP hD hA hAB hS ls hl
  have hx := C.1
  have hb := C.2.1
  have hown := C.2.2.2.1
  have hw := C.2.2.2.2
  have hl : lv_has ls 5 [(0, .ref (a 0)), (1, .int p0), (2, .int p1), (3, .ref o)] := hl
  have hPX : va_P (gD G) vwCl (wX G a S) s.heap := P_tail hP
  refine lv_aload_n hx hb dL_withMonth_0 rfl (lv_at hl 3 rfl) ?_
  refine lv_aload_n hx hb dL_withMonth_1 rfl (lv_at hl 0 rfl) ?_
  refine lv_iload_n hx hb dL_withMonth_2 rfl (lv_at hl 1 rfl) ?_
  refine lv_iload_n hx hb dL_withMonth_3 rfl (lv_at hl 2 rfl) ?_
  refine thV (as := [.int p0, .int p1]) (rest := [.ref o]) (cl := RX0) C (tA_X0_withMonth l hl9 G a p0 p1 h0 hbad) F_X0_withMonth rfl bw478 bw479 bw480 hE hS hA (va_recv hE.K hPX (ci := 2) (q0 := 0) rfl rfl) hl.1 dL_withMonth_4 ⟨Nat.le_of_ble_eq_true rfl, Nat.le_of_ble_eq_true rfl⟩ rfl (Nat.le_of_ble_eq_true rfl) ⟨Nat.le_of_ble_eq_true rfl, Nat.le_of_ble_eq_true rfl⟩ (fun q9 ce H1 locs1 hz ho hS1 hce hcv hcl => ?_)
  refine vx_catch hown [⟨0, 11, 14, 25⟩] ⟨0, 11, 18, 19⟩ [] (hT.trans rfl) (fun z hz => by cases List.mem_singleton.mp hz; exact Or.inr ⟨by decide, eI, hw _ bw382, hN.1⟩) (by decide) (by decide) (hw _ bw303) (castXX (hw _ bw312)) hce hcv hcl ?_
  refine lv_astore (lv' := [(4, .ref q9), (0, .ref (a 0)), (1, .int p0), (2, .int p1), (3, .ref o)]) hx hb dL_withMonth_18 hl (Nat.le_of_ble_eq_true rfl) rfl (fun ls hl => ?_)
  refine lv_iconst (v := (2 : Int32)) hx hb dL_withMonth_20 (by decide) ?_
  exact we_h hx hb hr hk (P_old hP ho) hD hS1 (Nat.le_of_ble_eq_true rfl) (Nat.le_of_ble_eq_true rfl) dL_withMonth_21

set_option maxRecDepth 100000 in
set_option maxHeartbeats 4000000 in
theorem hG_withMonth (l : Launch) (hl9 : l.stackTraces = false) (G : GT) (a : Nat → Nat) (o : Nat) (n : Int64) (sv : Value) (S : SX) (p0 : Int32) (p1 : Int32) (h0 : vp_in p0 6) (r1 : ¬ p1 < (1 : Int32)) (q1 : p1 ≤ (12 : Int32)) : HE l G yL_withMonth cL_withMonth 5 [(0, 11, 14, 25), (0, 11, 18, 19)] 10 0 0 [.ref (a 0), .int p0, .int p1, .ref o] (wH G a o n sv S) (wH G a o ((gX0_withMonth S p0 p1).1.toInt64) sv ((gX0_withMonth S p0 p1).2)) (0 : Int32) := by
  refine HE.ofW (own := RL) rfl (by decide +kernel) (Nat.le_of_ble_eq_true rfl) ?_
  intro p e s m below meth c A C hr hk hT hN hE hP hD hA hAB hS ls hl
  have hx := C.1
  have hb := C.2.1
  have hown := C.2.2.2.1
  have hw := C.2.2.2.2
  have hl : lv_has ls 5 [(0, .ref (a 0)), (1, .int p0), (2, .int p1), (3, .ref o)] := hl
  have hPX : va_P (gD G) vwCl (wX G a S) s.heap := P_tail hP
  refine lv_aload_n hx hb dL_withMonth_0 rfl (lv_at hl 3 rfl) ?_
  refine lv_aload_n hx hb dL_withMonth_1 rfl (lv_at hl 0 rfl) ?_
  refine lv_iload_n hx hb dL_withMonth_2 rfl (lv_at hl 1 rfl) ?_
  refine lv_iload_n hx hb dL_withMonth_3 rfl (lv_at hl 2 rfl) ?_
  refine wcV1 (as := [.int p0, .int p1]) (rest := [.ref o]) (cl := RX0) C (c_X0_withMonth l G a S p0 p1 h0 r1 q1) F_X0_withMonth rfl bw478 bw479 bw480 hE hP hD hS hA hAB (va_recv hE.K hPX (ci := 2) (q0 := 0) rfl rfl) hl.1 dL_withMonth_4 ⟨Nat.le_of_ble_eq_true rfl, Nat.le_of_ble_eq_true rfl⟩ rfl (Nat.le_of_ble_eq_true rfl) ⟨Nat.le_of_ble_eq_true rfl, Nat.le_of_ble_eq_true rfl⟩ (fun H locs hP hD hS => ?_)
  refine lv_i2l (v := (((gX0_withMonth S p0 p1).1).toInt64)) hx hb dL_withMonth_7 (by first | rfl | decide) ?_
  refine va_putN (D := gD G) (cl := vwCl) (tys := gT G) (ci := 3) (v := .long (((gX0_withMonth S p0 p1).1).toInt64)) (ty := .long) (C := RX1) (T := TX1) (N := 2) hx hb hw inB_X1 tyX1 tyX1_ok nmX1 hown hE.K hP hD hS 0 rfl rfl 0 (by decide) (va_Nw.use rfl hN.2.1) (fun _ h9 => h9) rfl (by decide +kernel) rfl rfl (Nat.le_of_ble_eq_true rfl) dL_withMonth_8 (fun H locs hP hD hS => ?_)
  refine lv_goto (tgt := 22) hx hb dL_withMonth_11 (by decide) ?_
  refine lv_iconst (v := (0 : Int32)) hx hb dL_withMonth_22 (by decide) ?_
  exact we_h hx hb hr hk hP hD hS (Nat.le_of_ble_eq_true rfl) (Nat.le_of_ble_eq_true rfl) dL_withMonth_23

set_option maxRecDepth 100000 in
set_option maxHeartbeats 4000000 in
theorem hI_withDayOfMonth (l : Launch) (hl9 : l.stackTraces = false) (G : GT) (a : Nat → Nat) (o : Nat) (n : Int64) (sv : Value) (S : SX) (p0 : Int32) (p1 : Int32) (hbad : ¬ (vp_in p0 6)) : HE l G yL_withDayOfMonth cL_withDayOfMonth 5 [(0, 11, 14, 25), (0, 11, 18, 19)] 10 1 6 [.ref (a 0), .int p0, .int p1, .ref o] (wH G a o n sv S) (wH G a o n sv S) (1 : Int32) := by
  refine HE.ofW (own := RL) rfl (by decide +kernel) (Nat.le_of_ble_eq_true rfl) ?_
  intro p e s m below meth c A C hr hk hT hN hE hP hD hA hAB hS ls hl
  have hx := C.1
  have hb := C.2.1
  have hown := C.2.2.2.1
  have hw := C.2.2.2.2
  have hl : lv_has ls 5 [(0, .ref (a 0)), (1, .int p0), (2, .int p1), (3, .ref o)] := hl
  have hPX : va_P (gD G) vwCl (wX G a S) s.heap := P_tail hP
  refine lv_aload_n hx hb dL_withDayOfMonth_0 rfl (lv_at hl 3 rfl) ?_
  refine lv_aload_n hx hb dL_withDayOfMonth_1 rfl (lv_at hl 0 rfl) ?_
  refine lv_iload_n hx hb dL_withDayOfMonth_2 rfl (lv_at hl 1 rfl) ?_
  refine lv_iload_n hx hb dL_withDayOfMonth_3 rfl (lv_at hl 2 rfl) ?_
  refine thV (as := [.int p0, .int p1]) (rest := [.ref o]) (cl := RX0) C (tI_X0_withDayOfMonth l hl9 G a p0 p1 hbad) F_X0_withDayOfMonth rfl bw485 bw486 bw487 hE hS hA (va_recv hE.K hPX (ci := 2) (q0 := 0) rfl rfl) hl.1 dL_withDayOfMonth_4 ⟨Nat.le_of_ble_eq_true rfl, Nat.le_of_ble_eq_true rfl⟩ rfl (Nat.le_of_ble_eq_true rfl) ⟨Nat.le_of_ble_eq_true rfl, Nat.le_of_ble_eq_true rfl⟩ (fun q9 ce H1 locs1 hz ho hS1 hce hcv hcl => ?_)
  refine vx_catch hown [] ⟨0, 11, 14, 25⟩ [⟨0, 11, 18, 19⟩] (hT.trans rfl) (fun z hz => nomatch hz) (by decide) (by decide) (hw _ bw382) (castXX (hw _ bw391)) hce hcv hcl ?_
  refine lv_astore (lv' := [(4, .ref q9), (0, .ref (a 0)), (1, .int p0), (2, .int p1), (3, .ref o)]) hx hb dL_withDayOfMonth_14 hl (Nat.le_of_ble_eq_true rfl) rfl (fun ls hl => ?_)
  refine lv_iconst (v := (1 : Int32)) hx hb dL_withDayOfMonth_16 (by decide) ?_
  exact we_h hx hb hr hk (P_old hP ho) hD hS1 (Nat.le_of_ble_eq_true rfl) (Nat.le_of_ble_eq_true rfl) dL_withDayOfMonth_17

set_option maxRecDepth 100000 in
set_option maxHeartbeats 4000000 in
theorem hA_withDayOfMonth (l : Launch) (hl9 : l.stackTraces = false) (G : GT) (a : Nat → Nat) (o : Nat) (n : Int64) (sv : Value) (S : SX) (p0 : Int32) (p1 : Int32) (h0 : vp_in p0 6) (hbad : ¬ ((¬ p1 < (1 : Int32) ∧ p1 ≤ (31 : Int32)))) : HE l G yL_withDayOfMonth cL_withDayOfMonth 5 [(0, 11, 14, 25), (0, 11, 18, 19)] 10 1 6 [.ref (a 0), .int p0, .int p1, .ref o] (wH G a o n sv S) (wH G a o n sv S) (2 : Int32) := by
  refine HE.ofW (own := RL) rfl (by decide +kernel) (Nat.le_of_ble_eq_true rfl) ?_
  intro p e s m below meth c A C hr hk hT hN hE hP hD hA hAB hS ls hl
  have hx := C.1
  have hb := C.2.1
  have hown := C.2.2.2.1
  have hw := C.2.2.2.2
  have hl : lv_has ls 5 [(0, .ref (a 0)), (1, .int p0), (2, .int p1), (3, .ref o)] := hl
  have hPX : va_P (gD G) vwCl (wX G a S) s.heap := P_tail hP
  refine lv_aload_n hx hb dL_withDayOfMonth_0 rfl (lv_at hl 3 rfl) ?_
  refine lv_aload_n hx hb dL_withDayOfMonth_1 rfl (lv_at hl 0 rfl) ?_
  refine lv_iload_n hx hb dL_withDayOfMonth_2 rfl (lv_at hl 1 rfl) ?_
  refine lv_iload_n hx hb dL_withDayOfMonth_3 rfl (lv_at hl 2 rfl) ?_
  refine thV (as := [.int p0, .int p1]) (rest := [.ref o]) (cl := RX0) C (tA_X0_withDayOfMonth l hl9 G a p0 p1 h0 hbad) F_X0_withDayOfMonth rfl bw485 bw486 bw487 hE hS hA (va_recv hE.K hPX (ci := 2) (q0 := 0) rfl rfl) hl.1 dL_withDayOfMonth_4 ⟨Nat.le_of_ble_eq_true rfl, Nat.le_of_ble_eq_true rfl⟩ rfl (Nat.le_of_ble_eq_true rfl) ⟨Nat.le_of_ble_eq_true rfl, Nat.le_of_ble_eq_true rfl⟩ (fun q9 ce H1 locs1 hz ho hS1 hce hcv hcl => ?_)
  refine vx_catch hown [⟨0, 11, 14, 25⟩] ⟨0, 11, 18, 19⟩ [] (hT.trans rfl) (fun z hz => by cases List.mem_singleton.mp hz; exact Or.inr ⟨by decide, eI, hw _ bw382, hN.1⟩) (by decide) (by decide) (hw _ bw303) (castXX (hw _ bw312)) hce hcv hcl ?_
  refine lv_astore (lv' := [(4, .ref q9), (0, .ref (a 0)), (1, .int p0), (2, .int p1), (3, .ref o)]) hx hb dL_withDayOfMonth_18 hl (Nat.le_of_ble_eq_true rfl) rfl (fun ls hl => ?_)
  refine lv_iconst (v := (2 : Int32)) hx hb dL_withDayOfMonth_20 (by decide) ?_
  exact we_h hx hb hr hk (P_old hP ho) hD hS1 (Nat.le_of_ble_eq_true rfl) (Nat.le_of_ble_eq_true rfl) dL_withDayOfMonth_21

set_option maxRecDepth 100000 in
set_option maxHeartbeats 4000000 in
theorem hG_withDayOfMonth (l : Launch) (hl9 : l.stackTraces = false) (G : GT) (a : Nat → Nat) (o : Nat) (n : Int64) (sv : Value) (S : SX) (p0 : Int32) (p1 : Int32) (h0 : vp_in p0 6) (r1 : ¬ p1 < (1 : Int32)) (q1 : p1 ≤ (31 : Int32)) : HE l G yL_withDayOfMonth cL_withDayOfMonth 5 [(0, 11, 14, 25), (0, 11, 18, 19)] 10 0 0 [.ref (a 0), .int p0, .int p1, .ref o] (wH G a o n sv S) (wH G a o ((gX0_withDayOfMonth S p0 p1).1.toInt64) sv ((gX0_withDayOfMonth S p0 p1).2)) (0 : Int32) := by
  refine HE.ofW (own := RL) rfl (by decide +kernel) (Nat.le_of_ble_eq_true rfl) ?_
  intro p e s m below meth c A C hr hk hT hN hE hP hD hA hAB hS ls hl
  have hx := C.1
  have hb := C.2.1
  have hown := C.2.2.2.1
  have hw := C.2.2.2.2
  have hl : lv_has ls 5 [(0, .ref (a 0)), (1, .int p0), (2, .int p1), (3, .ref o)] := hl
  have hPX : va_P (gD G) vwCl (wX G a S) s.heap := P_tail hP
  refine lv_aload_n hx hb dL_withDayOfMonth_0 rfl (lv_at hl 3 rfl) ?_
  refine lv_aload_n hx hb dL_withDayOfMonth_1 rfl (lv_at hl 0 rfl) ?_
  refine lv_iload_n hx hb dL_withDayOfMonth_2 rfl (lv_at hl 1 rfl) ?_
  refine lv_iload_n hx hb dL_withDayOfMonth_3 rfl (lv_at hl 2 rfl) ?_
  refine wcV1 (as := [.int p0, .int p1]) (rest := [.ref o]) (cl := RX0) C (c_X0_withDayOfMonth l G a S p0 p1 h0 r1 q1) F_X0_withDayOfMonth rfl bw485 bw486 bw487 hE hP hD hS hA hAB (va_recv hE.K hPX (ci := 2) (q0 := 0) rfl rfl) hl.1 dL_withDayOfMonth_4 ⟨Nat.le_of_ble_eq_true rfl, Nat.le_of_ble_eq_true rfl⟩ rfl (Nat.le_of_ble_eq_true rfl) ⟨Nat.le_of_ble_eq_true rfl, Nat.le_of_ble_eq_true rfl⟩ (fun H locs hP hD hS => ?_)
  refine lv_i2l (v := (((gX0_withDayOfMonth S p0 p1).1).toInt64)) hx hb dL_withDayOfMonth_7 (by first | rfl | decide) ?_
  refine va_putN (D := gD G) (cl := vwCl) (tys := gT G) (ci := 3) (v := .long (((gX0_withDayOfMonth S p0 p1).1).toInt64)) (ty := .long) (C := RX1) (T := TX1) (N := 2) hx hb hw inB_X1 tyX1 tyX1_ok nmX1 hown hE.K hP hD hS 0 rfl rfl 0 (by decide) (va_Nw.use rfl hN.2.1) (fun _ h9 => h9) rfl (by decide +kernel) rfl rfl (Nat.le_of_ble_eq_true rfl) dL_withDayOfMonth_8 (fun H locs hP hD hS => ?_)
  refine lv_goto (tgt := 22) hx hb dL_withDayOfMonth_11 (by decide) ?_
  refine lv_iconst (v := (0 : Int32)) hx hb dL_withDayOfMonth_22 (by decide) ?_
  exact we_h hx hb hr hk hP hD hS (Nat.le_of_ble_eq_true rfl) (Nat.le_of_ble_eq_true rfl) dL_withDayOfMonth_23

set_option maxRecDepth 100000 in
set_option maxHeartbeats 4000000 in
theorem hI_withDayOfYear (l : Launch) (hl9 : l.stackTraces = false) (G : GT) (a : Nat → Nat) (o : Nat) (n : Int64) (sv : Value) (S : SX) (p0 : Int32) (p1 : Int32) (hbad : ¬ (vp_in p0 6)) : HE l G yL_withDayOfYear cL_withDayOfYear 5 [(0, 11, 14, 25), (0, 11, 18, 19)] 10 1 6 [.ref (a 0), .int p0, .int p1, .ref o] (wH G a o n sv S) (wH G a o n sv S) (1 : Int32) := by
  refine HE.ofW (own := RL) rfl (by decide +kernel) (Nat.le_of_ble_eq_true rfl) ?_
  intro p e s m below meth c A C hr hk hT hN hE hP hD hA hAB hS ls hl
  have hx := C.1
  have hb := C.2.1
  have hown := C.2.2.2.1
  have hw := C.2.2.2.2
  have hl : lv_has ls 5 [(0, .ref (a 0)), (1, .int p0), (2, .int p1), (3, .ref o)] := hl
  have hPX : va_P (gD G) vwCl (wX G a S) s.heap := P_tail hP
  refine lv_aload_n hx hb dL_withDayOfYear_0 rfl (lv_at hl 3 rfl) ?_
  refine lv_aload_n hx hb dL_withDayOfYear_1 rfl (lv_at hl 0 rfl) ?_
  refine lv_iload_n hx hb dL_withDayOfYear_2 rfl (lv_at hl 1 rfl) ?_
  refine lv_iload_n hx hb dL_withDayOfYear_3 rfl (lv_at hl 2 rfl) ?_
  refine thV (as := [.int p0, .int p1]) (rest := [.ref o]) (cl := RX0) C (tI_X0_withDayOfYear l hl9 G a p0 p1 hbad) F_X0_withDayOfYear rfl bw492 bw493 bw494 hE hS hA (va_recv hE.K hPX (ci := 2) (q0 := 0) rfl rfl) hl.1 dL_withDayOfYear_4 ⟨Nat.le_of_ble_eq_true rfl, Nat.le_of_ble_eq_true rfl⟩ rfl (Nat.le_of_ble_eq_true rfl) ⟨Nat.le_of_ble_eq_true rfl, Nat.le_of_ble_eq_true rfl⟩ (fun q9 ce H1 locs1 hz ho hS1 hce hcv hcl => ?_)
  refine vx_catch hown [] ⟨0, 11, 14, 25⟩ [⟨0, 11, 18, 19⟩] (hT.trans rfl) (fun z hz => nomatch hz) (by decide) (by decide) (hw _ bw382) (castXX (hw _ bw391)) hce hcv hcl ?_
  refine lv_astore (lv' := [(4, .ref q9), (0, .ref (a 0)), (1, .int p0), (2, .int p1), (3, .ref o)]) hx hb dL_withDayOfYear_14 hl (Nat.le_of_ble_eq_true rfl) rfl (fun ls hl => ?_)
  refine lv_iconst (v := (1 : Int32)) hx hb dL_withDayOfYear_16 (by decide) ?_
  exact we_h hx hb hr hk (P_old hP ho) hD hS1 (Nat.le_of_ble_eq_true rfl) (Nat.le_of_ble_eq_true rfl) dL_withDayOfYear_17

set_option maxRecDepth 100000 in
set_option maxHeartbeats 4000000 in
theorem hA_withDayOfYear (l : Launch) (hl9 : l.stackTraces = false) (G : GT) (a : Nat → Nat) (o : Nat) (n : Int64) (sv : Value) (S : SX) (p0 : Int32) (p1 : Int32) (h0 : vp_in p0 6) (hbad : ¬ ((¬ p1 < (1 : Int32) ∧ p1 ≤ (366 : Int32)))) : HE l G yL_withDayOfYear cL_withDayOfYear 5 [(0, 11, 14, 25), (0, 11, 18, 19)] 10 1 6 [.ref (a 0), .int p0, .int p1, .ref o] (wH G a o n sv S) (wH G a o n sv S) (2 : Int32) := by
  refine HE.ofW (own := RL) rfl (by decide +kernel) (Nat.le_of_ble_eq_true rfl) ?_
  intro p e s m below meth c A C hr hk hT hN hE hP hD hA hAB hS ls hl
  have hx := C.1
  have hb := C.2.1
  have hown := C.2.2.2.1
  have hw := C.2.2.2.2
  have hl : lv_has ls 5 [(0, .ref (a 0)), (1, .int p0), (2, .int p1), (3, .ref o)] := hl
  have hPX : va_P (gD G) vwCl (wX G a S) s.heap := P_tail hP
  refine lv_aload_n hx hb dL_withDayOfYear_0 rfl (lv_at hl 3 rfl) ?_
  refine lv_aload_n hx hb dL_withDayOfYear_1 rfl (lv_at hl 0 rfl) ?_
  refine lv_iload_n hx hb dL_withDayOfYear_2 rfl (lv_at hl 1 rfl) ?_
  refine lv_iload_n hx hb dL_withDayOfYear_3 rfl (lv_at hl 2 rfl) ?_
  refine thV (as := [.int p0, .int p1]) (rest := [.ref o]) (cl := RX0) C (tA_X0_withDayOfYear l hl9 G a p0 p1 h0 hbad) F_X0_withDayOfYear rfl bw492 bw493 bw494 hE hS hA (va_recv hE.K hPX (ci := 2) (q0 := 0) rfl rfl) hl.1 dL_withDayOfYear_4 ⟨Nat.le_of_ble_eq_true rfl, Nat.le_of_ble_eq_true rfl⟩ rfl (Nat.le_of_ble_eq_true rfl) ⟨Nat.le_of_ble_eq_true rfl, Nat.le_of_ble_eq_true rfl⟩ (fun q9 ce H1 locs1 hz ho hS1 hce hcv hcl => ?_)
  refine vx_catch hown [⟨0, 11, 14, 25⟩] ⟨0, 11, 18, 19⟩ [] (hT.trans rfl) (fun z hz => by cases List.mem_singleton.mp hz; exact Or.inr ⟨by decide, eI, hw _ bw382, hN.1⟩) (by decide) (by decide) (hw _ bw303) (castXX (hw _ bw312)) hce hcv hcl ?_
  refine lv_astore (lv' := [(4, .ref q9), (0, .ref (a 0)), (1, .int p0), (2, .int p1), (3, .ref o)]) hx hb dL_withDayOfYear_18 hl (Nat.le_of_ble_eq_true rfl) rfl (fun ls hl => ?_)
  refine lv_iconst (v := (2 : Int32)) hx hb dL_withDayOfYear_20 (by decide) ?_
  exact we_h hx hb hr hk (P_old hP ho) hD hS1 (Nat.le_of_ble_eq_true rfl) (Nat.le_of_ble_eq_true rfl) dL_withDayOfYear_21

set_option maxRecDepth 100000 in
set_option maxHeartbeats 4000000 in
theorem hG_withDayOfYear (l : Launch) (hl9 : l.stackTraces = false) (G : GT) (a : Nat → Nat) (o : Nat) (n : Int64) (sv : Value) (S : SX) (p0 : Int32) (p1 : Int32) (h0 : vp_in p0 6) (r1 : ¬ p1 < (1 : Int32)) (q1 : p1 ≤ (366 : Int32)) : HE l G yL_withDayOfYear cL_withDayOfYear 5 [(0, 11, 14, 25), (0, 11, 18, 19)] 10 0 0 [.ref (a 0), .int p0, .int p1, .ref o] (wH G a o n sv S) (wH G a o ((gX0_withDayOfYear S p0 p1).1.toInt64) sv ((gX0_withDayOfYear S p0 p1).2)) (0 : Int32) := by
  refine HE.ofW (own := RL) rfl (by decide +kernel) (Nat.le_of_ble_eq_true rfl) ?_
  intro p e s m below meth c A C hr hk hT hN hE hP hD hA hAB hS ls hl
  have hx := C.1
  have hb := C.2.1
  have hown := C.2.2.2.1
  have hw := C.2.2.2.2
  have hl : lv_has ls 5 [(0, .ref (a 0)), (1, .int p0), (2, .int p1), (3, .ref o)] := hl
  have hPX : va_P (gD G) vwCl (wX G a S) s.heap := P_tail hP
  refine lv_aload_n hx hb dL_withDayOfYear_0 rfl (lv_at hl 3 rfl) ?_
  refine lv_aload_n hx hb dL_withDayOfYear_1 rfl (lv_at hl 0 rfl) ?_
  refine lv_iload_n hx hb dL_withDayOfYear_2 rfl (lv_at hl 1 rfl) ?_
  refine lv_iload_n hx hb dL_withDayOfYear_3 rfl (lv_at hl 2 rfl) ?_
  refine wcV1 (as := [.int p0, .int p1]) (rest := [.ref o]) (cl := RX0) C (c_X0_withDayOfYear l G a S p0 p1 h0 r1 q1) F_X0_withDayOfYear rfl bw492 bw493 bw494 hE hP hD hS hA hAB (va_recv hE.K hPX (ci := 2) (q0 := 0) rfl rfl) hl.1 dL_withDayOfYear_4 ⟨Nat.le_of_ble_eq_true rfl, Nat.le_of_ble_eq_true rfl⟩ rfl (Nat.le_of_ble_eq_true rfl) ⟨Nat.le_of_ble_eq_true rfl, Nat.le_of_ble_eq_true rfl⟩ (fun H locs hP hD hS => ?_)
  refine lv_i2l (v := (((gX0_withDayOfYear S p0 p1).1).toInt64)) hx hb dL_withDayOfYear_7 (by first | rfl | decide) ?_
  refine va_putN (D := gD G) (cl := vwCl) (tys := gT G) (ci := 3) (v := .long (((gX0_withDayOfYear S p0 p1).1).toInt64)) (ty := .long) (C := RX1) (T := TX1) (N := 2) hx hb hw inB_X1 tyX1 tyX1_ok nmX1 hown hE.K hP hD hS 0 rfl rfl 0 (by decide) (va_Nw.use rfl hN.2.1) (fun _ h9 => h9) rfl (by decide +kernel) rfl rfl (Nat.le_of_ble_eq_true rfl) dL_withDayOfYear_8 (fun H locs hP hD hS => ?_)
  refine lv_goto (tgt := 22) hx hb dL_withDayOfYear_11 (by decide) ?_
  refine lv_iconst (v := (0 : Int32)) hx hb dL_withDayOfYear_22 (by decide) ?_
  exact we_h hx hb hr hk hP hD hS (Nat.le_of_ble_eq_true rfl) (Nat.le_of_ble_eq_true rfl) dL_withDayOfYear_23

set_option maxRecDepth 100000 in
set_option maxHeartbeats 4000000 in
theorem hI_withHour (l : Launch) (hl9 : l.stackTraces = false) (G : GT) (a : Nat → Nat) (o : Nat) (n : Int64) (sv : Value) (S : SX) (p0 : Int32) (p1 : Int32) (hbad : ¬ (vp_in p0 6)) : HE l G yL_withHour cL_withHour 5 [(0, 11, 14, 25), (0, 11, 18, 19)] 10 1 6 [.ref (a 0), .int p0, .int p1, .ref o] (wH G a o n sv S) (wH G a o n sv S) (1 : Int32) := by
  refine HE.ofW (own := RL) rfl (by decide +kernel) (Nat.le_of_ble_eq_true rfl) ?_
  intro p e s m below meth c A C hr hk hT hN hE hP hD hA hAB hS ls hl
  have hx := C.1
  have hb := C.2.1
  have hown := C.2.2.2.1
  have hw := C.2.2.2.2
  have hl : lv_has ls 5 [(0, .ref (a 0)), (1, .int p0), (2, .int p1), (3, .ref o)] := hl
  have hPX : va_P (gD G) vwCl (wX G a S) s.heap := P_tail hP
  refine lv_aload_n hx hb dL_withHour_0 rfl (lv_at hl 3 rfl) ?_
  refine lv_aload_n hx hb dL_withHour_1 rfl (lv_at hl 0 rfl) ?_
  refine lv_iload_n hx hb dL_withHour_2 rfl (lv_at hl 1 rfl) ?_
  refine lv_iload_n hx hb dL_withHour_3 rfl (lv_at hl 2 rfl) ?_
  refine thV (as := [.int p0, .int p1]) (rest := [.ref o]) (cl := RX0) C (tI_X0_withHour l hl9 G a p0 p1 hbad) F_X0_withHour rfl bw502 bw503 bw504 hE hS hA (va_recv hE.K hPX (ci := 2) (q0 := 0) rfl rfl) hl.1 dL_withHour_4 ⟨Nat.le_of_ble_eq_true rfl, Nat.le_of_ble_eq_true rfl⟩ rfl (Nat.le_of_ble_eq_true rfl) ⟨Nat.le_of_ble_eq_true rfl, Nat.le_of_ble_eq_true rfl⟩ (fun q9 ce H1 locs1 hz ho hS1 hce hcv hcl => ?_)
  refine vx_catch hown [] ⟨0, 11, 14, 25⟩ [⟨0, 11, 18, 19⟩] (hT.trans rfl) (fun z hz => nomatch hz) (by decide) (by decide) (hw _ bw382) (castXX (hw _ bw391)) hce hcv hcl ?_
  refine lv_astore (lv' := [(4, .ref q9), (0, .ref (a 0)), (1, .int p0), (2, .int p1), (3, .ref o)]) hx hb dL_withHour_14 hl (Nat.le_of_ble_eq_true rfl) rfl (fun ls hl => ?_)
  refine lv_iconst (v := (1 : Int32)) hx hb dL_withHour_16 (by decide) ?_
  exact we_h hx hb hr hk (P_old hP ho) hD hS1 (Nat.le_of_ble_eq_true rfl) (Nat.le_of_ble_eq_true rfl) dL_withHour_17

set_option maxRecDepth 100000 in
set_option maxHeartbeats 4000000 in
theorem hA_withHour (l : Launch) (hl9 : l.stackTraces = false) (G : GT) (a : Nat → Nat) (o : Nat) (n : Int64) (sv : Value) (S : SX) (p0 : Int32) (p1 : Int32) (h0 : vp_in p0 6) (hbad : ¬ ((¬ p1 < (0 : Int32) ∧ p1 ≤ (23 : Int32)))) : HE l G yL_withHour cL_withHour 5 [(0, 11, 14, 25), (0, 11, 18, 19)] 10 1 6 [.ref (a 0), .int p0, .int p1, .ref o] (wH G a o n sv S) (wH G a o n sv S) (2 : Int32) := by
  refine HE.ofW (own := RL) rfl (by decide +kernel) (Nat.le_of_ble_eq_true rfl) ?_
  intro p e s m below meth c A C hr hk hT hN hE hP hD hA hAB hS ls hl
  have hx := C.1
  have hb := C.2.1
  have hown := C.2.2.2.1
  have hw := C.2.2.2.2
  have hl : lv_has ls 5 [(0, .ref (a 0)), (1, .int p0), (2, .int p1), (3, .ref o)] := hl
  have hPX : va_P (gD G) vwCl (wX G a S) s.heap := P_tail hP
  refine lv_aload_n hx hb dL_withHour_0 rfl (lv_at hl 3 rfl) ?_
  refine lv_aload_n hx hb dL_withHour_1 rfl (lv_at hl 0 rfl) ?_
  refine lv_iload_n hx hb dL_withHour_2 rfl (lv_at hl 1 rfl) ?_
  refine lv_iload_n hx hb dL_withHour_3 rfl (lv_at hl 2 rfl) ?_
  refine thV (as := [.int p0, .int p1]) (rest := [.ref o]) (cl := RX0) C (tA_X0_withHour l hl9 G a p0 p1 h0 hbad) F_X0_withHour rfl bw502 bw503 bw504 hE hS hA (va_recv hE.K hPX (ci := 2) (q0 := 0) rfl rfl) hl.1 dL_withHour_4 ⟨Nat.le_of_ble_eq_true rfl, Nat.le_of_ble_eq_true rfl⟩ rfl (Nat.le_of_ble_eq_true rfl) ⟨Nat.le_of_ble_eq_true rfl, Nat.le_of_ble_eq_true rfl⟩ (fun q9 ce H1 locs1 hz ho hS1 hce hcv hcl => ?_)
  refine vx_catch hown [⟨0, 11, 14, 25⟩] ⟨0, 11, 18, 19⟩ [] (hT.trans rfl) (fun z hz => by cases List.mem_singleton.mp hz; exact Or.inr ⟨by decide, eI, hw _ bw382, hN.1⟩) (by decide) (by decide) (hw _ bw303) (castXX (hw _ bw312)) hce hcv hcl ?_
  refine lv_astore (lv' := [(4, .ref q9), (0, .ref (a 0)), (1, .int p0), (2, .int p1), (3, .ref o)]) hx hb dL_withHour_18 hl (Nat.le_of_ble_eq_true rfl) rfl (fun ls hl => ?_)
  refine lv_iconst (v := (2 : Int32)) hx hb dL_withHour_20 (by decide) ?_
  exact we_h hx hb hr hk (P_old hP ho) hD hS1 (Nat.le_of_ble_eq_true rfl) (Nat.le_of_ble_eq_true rfl) dL_withHour_21

set_option maxRecDepth 100000 in
set_option maxHeartbeats 4000000 in
theorem hG_withHour (l : Launch) (hl9 : l.stackTraces = false) (G : GT) (a : Nat → Nat) (o : Nat) (n : Int64) (sv : Value) (S : SX) (p0 : Int32) (p1 : Int32) (h0 : vp_in p0 6) (r1 : ¬ p1 < (0 : Int32)) (q1 : p1 ≤ (23 : Int32)) : HE l G yL_withHour cL_withHour 5 [(0, 11, 14, 25), (0, 11, 18, 19)] 10 0 0 [.ref (a 0), .int p0, .int p1, .ref o] (wH G a o n sv S) (wH G a o ((gX0_withHour S p0 p1).1.toInt64) sv ((gX0_withHour S p0 p1).2)) (0 : Int32) := by
  refine HE.ofW (own := RL) rfl (by decide +kernel) (Nat.le_of_ble_eq_true rfl) ?_
  intro p e s m below meth c A C hr hk hT hN hE hP hD hA hAB hS ls hl
  have hx := C.1
  have hb := C.2.1
  have hown := C.2.2.2.1
  have hw := C.2.2.2.2
  have hl : lv_has ls 5 [(0, .ref (a 0)), (1, .int p0), (2, .int p1), (3, .ref o)] := hl
  have hPX : va_P (gD G) vwCl (wX G a S) s.heap := P_tail hP
  refine lv_aload_n hx hb dL_withHour_0 rfl (lv_at hl 3 rfl) ?_
  refine lv_aload_n hx hb dL_withHour_1 rfl (lv_at hl 0 rfl) ?_
  refine lv_iload_n hx hb dL_withHour_2 rfl (lv_at hl 1 rfl) ?_
  refine lv_iload_n hx hb dL_withHour_3 rfl (lv_at hl 2 rfl) ?_
  refine wcV1 (as := [.int p0, .int p1]) (rest := [.ref o]) (cl := RX0) C (c_X0_withHour l G a S p0 p1 h0 r1 q1) F_X0_withHour rfl bw502 bw503 bw504 hE hP hD hS hA hAB (va_recv hE.K hPX (ci := 2) (q0 := 0) rfl rfl) hl.1 dL_withHour_4 ⟨Nat.le_of_ble_eq_true rfl, Nat.le_of_ble_eq_true rfl⟩ rfl (Nat.le_of_ble_eq_true rfl) ⟨Nat.le_of_ble_eq_true rfl, Nat.le_of_ble_eq_true rfl⟩ (fun H locs hP hD hS => ?_)
  refine lv_i2l (v := (((gX0_withHour S p0 p1).1).toInt64)) hx hb dL_withHour_7 (by first | rfl | decide) ?_
  refine va_putN (D := gD G) (cl := vwCl) (tys := gT G) (ci := 3) (v := .long (((gX0_withHour S p0 p1).1).toInt64)) (ty := .long) (C := RX1) (T := TX1) (N := 2) hx hb hw inB_X1 tyX1 tyX1_ok nmX1 hown hE.K hP hD hS 0 rfl rfl 0 (by decide) (va_Nw.use rfl hN.2.1) (fun _ h9 => h9) rfl (by decide +kernel) rfl rfl (Nat.le_of_ble_eq_true rfl) dL_withHour_8 (fun H locs hP hD hS => ?_)
  refine lv_goto (tgt := 22) hx hb dL_withHour_11 (by decide) ?_
  refine lv_iconst (v := (0 : Int32)) hx hb dL_withHour_22 (by decide) ?_
  exact we_h hx hb hr hk hP hD hS (Nat.le_of_ble_eq_true rfl) (Nat.le_of_ble_eq_true rfl) dL_withHour_23

