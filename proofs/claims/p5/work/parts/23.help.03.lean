set_option maxRecDepth 100000 in
set_option maxHeartbeats 4000000 in
theorem hI_withMinute (l : Launch) (hl9 : l.stackTraces = false) (G : GT) (a : Nat → Nat) (o : Nat) (n : Int64) (sv : Value) (S : SX) (p0 : Int32) (p1 : Int32) (hbad : ¬ (vp_in p0 6)) : HE l G yL_withMinute cL_withMinute 5 [(0, 11, 14, 25), (0, 11, 18, 19)] 10 1 6 [.ref (a 0), .int p0, .int p1, .ref o] (wH G a o n sv S) (wH G a o n sv S) (1 : Int32) := by
  refine HE.ofW (own := RL) rfl (by decide +kernel) (Nat.le_of_ble_eq_true rfl) ?_
  intro p e s m below meth c A C hr hk hT hN hE hP hD hA hAB hS ls hl
  have hx := C.1
  have hb := C.2.1
  have hown := C.2.2.2.1
  have hw := C.2.2.2.2
  have hl : lv_has ls 5 [(0, .ref (a 0)), (1, .int p0), (2, .int p1), (3, .ref o)] := hl
  have hPX : va_P (gD G) vwCl (wX G a S) s.heap := P_tail hP
  refine lv_aload_n hx hb dL_withMinute_0 rfl (lv_at hl 3 rfl) ?_
  refine lv_aload_n hx hb dL_withMinute_1 rfl (lv_at hl 0 rfl) ?_
  refine lv_iload_n hx hb dL_withMinute_2 rfl (lv_at hl 1 rfl) ?_
  refine lv_iload_n hx hb dL_withMinute_3 rfl (lv_at hl 2 rfl) ?_
  refine thV (as := [.int p0, .int p1]) (rest := [.ref o]) (cl := RX0) C (tI_X0_withMinute l hl9 G a p0 p1 hbad) F_X0_withMinute rfl bw509 bw510 bw511 hE hS hA (va_recv hE.K hPX (ci := 2) (q0 := 0) rfl rfl) hl.1 dL_withMinute_4 ⟨Nat.le_of_ble_eq_true rfl, Nat.le_of_ble_eq_true rfl⟩ rfl (Nat.le_of_ble_eq_true rfl) ⟨Nat.le_of_ble_eq_true rfl, Nat.le_of_ble_eq_true rfl⟩ (fun q9 ce H1 locs1 hz ho hS1 hce hcv hcl => ?_)
  refine vx_catch hown [] ⟨0, 11, 14, 25⟩ [⟨0, 11, 18, 19⟩] (hT.trans rfl) (fun z hz => nomatch hz) (by decide) (by decide) (hw _ bw382) (castXX (hw _ bw391)) hce hcv hcl ?_
  refine lv_astore (lv' := [(4, .ref q9), (0, .ref (a 0)), (1, .int p0), (2, .int p1), (3, .ref o)]) hx hb dL_withMinute_14 hl (Nat.le_of_ble_eq_true rfl) rfl (fun ls hl => ?_)
  refine lv_iconst (v := (1 : Int32)) hx hb dL_withMinute_16 (by decide) ?_
  exact we_h hx hb hr hk (P_old hP ho) hD hS1 (Nat.le_of_ble_eq_true rfl) (Nat.le_of_ble_eq_true rfl) dL_withMinute_17

set_option maxRecDepth 100000 in
set_option maxHeartbeats 4000000 in
theorem hA_withMinute (l : Launch) (hl9 : l.stackTraces = false) (G : GT) (a : Nat → Nat) (o : Nat) (n : Int64) (sv : Value) (S : SX) (p0 : Int32) (p1 : Int32) (h0 : vp_in p0 6) (hbad : ¬ ((¬ p1 < (0 : Int32) ∧ p1 ≤ (59 : Int32)))) : HE l G yL_withMinute cL_withMinute 5 [(0, 11, 14, 25), (0, 11, 18, 19)] 10 1 6 [.ref (a 0), .int p0, .int p1, .ref o] (wH G a o n sv S) (wH G a o n sv S) (2 : Int32) := by
  refine HE.ofW (own := RL) rfl (by decide +kernel) (Nat.le_of_ble_eq_true rfl) ?_
  intro p e s m below meth c A C hr hk hT hN hE hP hD hA hAB hS ls hl
  have hx := C.1
  have hb := C.2.1
  have hown := C.2.2.2.1
  have hw := C.2.2.2.2
  have hl : lv_has ls 5 [(0, .ref (a 0)), (1, .int p0), (2, .int p1), (3, .ref o)] := hl
  have hPX : va_P (gD G) vwCl (wX G a S) s.heap := P_tail hP
  refine lv_aload_n hx hb dL_withMinute_0 rfl (lv_at hl 3 rfl) ?_
  refine lv_aload_n hx hb dL_withMinute_1 rfl (lv_at hl 0 rfl) ?_
  refine lv_iload_n hx hb dL_withMinute_2 rfl (lv_at hl 1 rfl) ?_
  refine lv_iload_n hx hb dL_withMinute_3 rfl (lv_at hl 2 rfl) ?_
  refine thV (as := [.int p0, .int p1]) (rest := [.ref o]) (cl := RX0) C (tA_X0_withMinute l hl9 G a p0 p1 h0 hbad) F_X0_withMinute rfl bw509 bw510 bw511 hE hS hA (va_recv hE.K hPX (ci := 2) (q0 := 0) rfl rfl) hl.1 dL_withMinute_4 ⟨Nat.le_of_ble_eq_true rfl, Nat.le_of_ble_eq_true rfl⟩ rfl (Nat.le_of_ble_eq_true rfl) ⟨Nat.le_of_ble_eq_true rfl, Nat.le_of_ble_eq_true rfl⟩ (fun q9 ce H1 locs1 hz ho hS1 hce hcv hcl => ?_)
  refine vx_catch hown [⟨0, 11, 14, 25⟩] ⟨0, 11, 18, 19⟩ [] (hT.trans rfl) (fun z hz => by cases List.mem_singleton.mp hz; exact Or.inr ⟨by decide, eI, hw _ bw382, hN.1⟩) (by decide) (by decide) (hw _ bw303) (castXX (hw _ bw312)) hce hcv hcl ?_
  refine lv_astore (lv' := [(4, .ref q9), (0, .ref (a 0)), (1, .int p0), (2, .int p1), (3, .ref o)]) hx hb dL_withMinute_18 hl (Nat.le_of_ble_eq_true rfl) rfl (fun ls hl => ?_)
  refine lv_iconst (v := (2 : Int32)) hx hb dL_withMinute_20 (by decide) ?_
  exact we_h hx hb hr hk (P_old hP ho) hD hS1 (Nat.le_of_ble_eq_true rfl) (Nat.le_of_ble_eq_true rfl) dL_withMinute_21

set_option maxRecDepth 100000 in
set_option maxHeartbeats 4000000 in
theorem hG_withMinute (l : Launch) (hl9 : l.stackTraces = false) (G : GT) (a : Nat → Nat) (o : Nat) (n : Int64) (sv : Value) (S : SX) (p0 : Int32) (p1 : Int32) (h0 : vp_in p0 6) (r1 : ¬ p1 < (0 : Int32)) (q1 : p1 ≤ (59 : Int32)) : HE l G yL_withMinute cL_withMinute 5 [(0, 11, 14, 25), (0, 11, 18, 19)] 10 0 0 [.ref (a 0), .int p0, .int p1, .ref o] (wH G a o n sv S) (wH G a o ((gX0_withMinute S p0 p1).1.toInt64) sv ((gX0_withMinute S p0 p1).2)) (0 : Int32) := by
  refine HE.ofW (own := RL) rfl (by decide +kernel) (Nat.le_of_ble_eq_true rfl) ?_
  intro p e s m below meth c A C hr hk hT hN hE hP hD hA hAB hS ls hl
  have hx := C.1
  have hb := C.2.1
  have hown := C.2.2.2.1
  have hw := C.2.2.2.2
  have hl : lv_has ls 5 [(0, .ref (a 0)), (1, .int p0), (2, .int p1), (3, .ref o)] := hl
  have hPX : va_P (gD G) vwCl (wX G a S) s.heap := P_tail hP
  refine lv_aload_n hx hb dL_withMinute_0 rfl (lv_at hl 3 rfl) ?_
  refine lv_aload_n hx hb dL_withMinute_1 rfl (lv_at hl 0 rfl) ?_
  refine lv_iload_n hx hb dL_withMinute_2 rfl (lv_at hl 1 rfl) ?_
  refine lv_iload_n hx hb dL_withMinute_3 rfl (lv_at hl 2 rfl) ?_
  refine wcV1 (as := [.int p0, .int p1]) (rest := [.ref o]) (cl := RX0) C (c_X0_withMinute l G a S p0 p1 h0 r1 q1) F_X0_withMinute rfl bw509 bw510 bw511 hE hP hD hS hA hAB (va_recv hE.K hPX (ci := 2) (q0 := 0) rfl rfl) hl.1 dL_withMinute_4 ⟨Nat.le_of_ble_eq_true rfl, Nat.le_of_ble_eq_true rfl⟩ rfl (Nat.le_of_ble_eq_true rfl) ⟨Nat.le_of_ble_eq_true rfl, Nat.le_of_ble_eq_true rfl⟩ (fun H locs hP hD hS => ?_)
  refine lv_i2l (v := (((gX0_withMinute S p0 p1).1).toInt64)) hx hb dL_withMinute_7 (by first | rfl | decide) ?_
  refine va_putN (D := gD G) (cl := vwCl) (tys := gT G) (ci := 3) (v := .long (((gX0_withMinute S p0 p1).1).toInt64)) (ty := .long) (C := RX1) (T := TX1) (N := 2) hx hb hw inB_X1 tyX1 tyX1_ok nmX1 hown hE.K hP hD hS 0 rfl rfl 0 (by decide) (va_Nw.use rfl hN.2.1) (fun _ h9 => h9) rfl (by decide +kernel) rfl rfl (Nat.le_of_ble_eq_true rfl) dL_withMinute_8 (fun H locs hP hD hS => ?_)
  refine lv_goto (tgt := 22) hx hb dL_withMinute_11 (by decide) ?_
  refine lv_iconst (v := (0 : Int32)) hx hb dL_withMinute_22 (by decide) ?_
  exact we_h hx hb hr hk hP hD hS (Nat.le_of_ble_eq_true rfl) (Nat.le_of_ble_eq_true rfl) dL_withMinute_23

set_option maxRecDepth 100000 in
set_option maxHeartbeats 4000000 in
theorem hI_withSecond (l : Launch) (hl9 : l.stackTraces = false) (G : GT) (a : Nat → Nat) (o : Nat) (n : Int64) (sv : Value) (S : SX) (p0 : Int32) (p1 : Int32) (hbad : ¬ (vp_in p0 6)) : HE l G yL_withSecond cL_withSecond 5 [(0, 11, 14, 25), (0, 11, 18, 19)] 10 1 6 [.ref (a 0), .int p0, .int p1, .ref o] (wH G a o n sv S) (wH G a o n sv S) (1 : Int32) := by
  refine HE.ofW (own := RL) rfl (by decide +kernel) (Nat.le_of_ble_eq_true rfl) ?_
  intro p e s m below meth c A C hr hk hT hN hE hP hD hA hAB hS ls hl
  have hx := C.1
  have hb := C.2.1
  have hown := C.2.2.2.1
  have hw := C.2.2.2.2
  have hl : lv_has ls 5 [(0, .ref (a 0)), (1, .int p0), (2, .int p1), (3, .ref o)] := hl
  have hPX : va_P (gD G) vwCl (wX G a S) s.heap := P_tail hP
  refine lv_aload_n hx hb dL_withSecond_0 rfl (lv_at hl 3 rfl) ?_
  refine lv_aload_n hx hb dL_withSecond_1 rfl (lv_at hl 0 rfl) ?_
  refine lv_iload_n hx hb dL_withSecond_2 rfl (lv_at hl 1 rfl) ?_
  refine lv_iload_n hx hb dL_withSecond_3 rfl (lv_at hl 2 rfl) ?_
  refine thV (as := [.int p0, .int p1]) (rest := [.ref o]) (cl := RX0) C (tI_X0_withSecond l hl9 G a p0 p1 hbad) F_X0_withSecond rfl bw516 bw517 bw518 hE hS hA (va_recv hE.K hPX (ci := 2) (q0 := 0) rfl rfl) hl.1 dL_withSecond_4 ⟨Nat.le_of_ble_eq_true rfl, Nat.le_of_ble_eq_true rfl⟩ rfl (Nat.le_of_ble_eq_true rfl) ⟨Nat.le_of_ble_eq_true rfl, Nat.le_of_ble_eq_true rfl⟩ (fun q9 ce H1 locs1 hz ho hS1 hce hcv hcl => ?_)
  refine vx_catch hown [] ⟨0, 11, 14, 25⟩ [⟨0, 11, 18, 19⟩] (hT.trans rfl) (fun z hz => nomatch hz) (by decide) (by decide) (hw _ bw382) (castXX (hw _ bw391)) hce hcv hcl ?_
  refine lv_astore (lv' := [(4, .ref q9), (0, .ref (a 0)), (1, .int p0), (2, .int p1), (3, .ref o)]) hx hb dL_withSecond_14 hl (Nat.le_of_ble_eq_true rfl) rfl (fun ls hl => ?_)
  refine lv_iconst (v := (1 : Int32)) hx hb dL_withSecond_16 (by decide) ?_
  exact we_h hx hb hr hk (P_old hP ho) hD hS1 (Nat.le_of_ble_eq_true rfl) (Nat.le_of_ble_eq_true rfl) dL_withSecond_17

set_option maxRecDepth 100000 in
set_option maxHeartbeats 4000000 in
theorem hA_withSecond (l : Launch) (hl9 : l.stackTraces = false) (G : GT) (a : Nat → Nat) (o : Nat) (n : Int64) (sv : Value) (S : SX) (p0 : Int32) (p1 : Int32) (h0 : vp_in p0 6) (hbad : ¬ ((¬ p1 < (0 : Int32) ∧ p1 ≤ (59 : Int32)))) : HE l G yL_withSecond cL_withSecond 5 [(0, 11, 14, 25), (0, 11, 18, 19)] 10 1 6 [.ref (a 0), .int p0, .int p1, .ref o] (wH G a o n sv S) (wH G a o n sv S) (2 : Int32) := by
  refine HE.ofW (own := RL) rfl (by decide +kernel) (Nat.le_of_ble_eq_true rfl) ?_
  intro p e s m below meth c A C hr hk hT hN hE hP hD hA hAB hS ls hl
  have hx := C.1
  have hb := C.2.1
  have hown := C.2.2.2.1
  have hw := C.2.2.2.2
  have hl : lv_has ls 5 [(0, .ref (a 0)), (1, .int p0), (2, .int p1), (3, .ref o)] := hl
  have hPX : va_P (gD G) vwCl (wX G a S) s.heap := P_tail hP
  refine lv_aload_n hx hb dL_withSecond_0 rfl (lv_at hl 3 rfl) ?_
  refine lv_aload_n hx hb dL_withSecond_1 rfl (lv_at hl 0 rfl) ?_
  refine lv_iload_n hx hb dL_withSecond_2 rfl (lv_at hl 1 rfl) ?_
  refine lv_iload_n hx hb dL_withSecond_3 rfl (lv_at hl 2 rfl) ?_
  refine thV (as := [.int p0, .int p1]) (rest := [.ref o]) (cl := RX0) C (tA_X0_withSecond l hl9 G a p0 p1 h0 hbad) F_X0_withSecond rfl bw516 bw517 bw518 hE hS hA (va_recv hE.K hPX (ci := 2) (q0 := 0) rfl rfl) hl.1 dL_withSecond_4 ⟨Nat.le_of_ble_eq_true rfl, Nat.le_of_ble_eq_true rfl⟩ rfl (Nat.le_of_ble_eq_true rfl) ⟨Nat.le_of_ble_eq_true rfl, Nat.le_of_ble_eq_true rfl⟩ (fun q9 ce H1 locs1 hz ho hS1 hce hcv hcl => ?_)
  refine vx_catch hown [⟨0, 11, 14, 25⟩] ⟨0, 11, 18, 19⟩ [] (hT.trans rfl) (fun z hz => by cases List.mem_singleton.mp hz; exact Or.inr ⟨by decide, eI, hw _ bw382, hN.1⟩) (by decide) (by decide) (hw _ bw303) (castXX (hw _ bw312)) hce hcv hcl ?_
  refine lv_astore (lv' := [(4, .ref q9), (0, .ref (a 0)), (1, .int p0), (2, .int p1), (3, .ref o)]) hx hb dL_withSecond_18 hl (Nat.le_of_ble_eq_true rfl) rfl (fun ls hl => ?_)
  refine lv_iconst (v := (2 : Int32)) hx hb dL_withSecond_20 (by decide) ?_
  exact we_h hx hb hr hk (P_old hP ho) hD hS1 (Nat.le_of_ble_eq_true rfl) (Nat.le_of_ble_eq_true rfl) dL_withSecond_21

set_option maxRecDepth 100000 in
set_option maxHeartbeats 4000000 in
theorem hG_withSecond (l : Launch) (hl9 : l.stackTraces = false) (G : GT) (a : Nat → Nat) (o : Nat) (n : Int64) (sv : Value) (S : SX) (p0 : Int32) (p1 : Int32) (h0 : vp_in p0 6) (r1 : ¬ p1 < (0 : Int32)) (q1 : p1 ≤ (59 : Int32)) : HE l G yL_withSecond cL_withSecond 5 [(0, 11, 14, 25), (0, 11, 18, 19)] 10 0 0 [.ref (a 0), .int p0, .int p1, .ref o] (wH G a o n sv S) (wH G a o ((gX0_withSecond S p0 p1).1.toInt64) sv ((gX0_withSecond S p0 p1).2)) (0 : Int32) := by
  refine HE.ofW (own := RL) rfl (by decide +kernel) (Nat.le_of_ble_eq_true rfl) ?_
  intro p e s m below meth c A C hr hk hT hN hE hP hD hA hAB hS ls hl
  have hx := C.1
  have hb := C.2.1
  have hown := C.2.2.2.1
  have hw := C.2.2.2.2
  have hl : lv_has ls 5 [(0, .ref (a 0)), (1, .int p0), (2, .int p1), (3, .ref o)] := hl
  have hPX : va_P (gD G) vwCl (wX G a S) s.heap := P_tail hP
  refine lv_aload_n hx hb dL_withSecond_0 rfl (lv_at hl 3 rfl) ?_
  refine lv_aload_n hx hb dL_withSecond_1 rfl (lv_at hl 0 rfl) ?_
  refine lv_iload_n hx hb dL_withSecond_2 rfl (lv_at hl 1 rfl) ?_
  refine lv_iload_n hx hb dL_withSecond_3 rfl (lv_at hl 2 rfl) ?_
  refine wcV1 (as := [.int p0, .int p1]) (rest := [.ref o]) (cl := RX0) C (c_X0_withSecond l G a S p0 p1 h0 r1 q1) F_X0_withSecond rfl bw516 bw517 bw518 hE hP hD hS hA hAB (va_recv hE.K hPX (ci := 2) (q0 := 0) rfl rfl) hl.1 dL_withSecond_4 ⟨Nat.le_of_ble_eq_true rfl, Nat.le_of_ble_eq_true rfl⟩ rfl (Nat.le_of_ble_eq_true rfl) ⟨Nat.le_of_ble_eq_true rfl, Nat.le_of_ble_eq_true rfl⟩ (fun H locs hP hD hS => ?_)
  refine lv_i2l (v := (((gX0_withSecond S p0 p1).1).toInt64)) hx hb dL_withSecond_7 (by first | rfl | decide) ?_
  refine va_putN (D := gD G) (cl := vwCl) (tys := gT G) (ci := 3) (v := .long (((gX0_withSecond S p0 p1).1).toInt64)) (ty := .long) (C := RX1) (T := TX1) (N := 2) hx hb hw inB_X1 tyX1 tyX1_ok nmX1 hown hE.K hP hD hS 0 rfl rfl 0 (by decide) (va_Nw.use rfl hN.2.1) (fun _ h9 => h9) rfl (by decide +kernel) rfl rfl (Nat.le_of_ble_eq_true rfl) dL_withSecond_8 (fun H locs hP hD hS => ?_)
  refine lv_goto (tgt := 22) hx hb dL_withSecond_11 (by decide) ?_
  refine lv_iconst (v := (0 : Int32)) hx hb dL_withSecond_22 (by decide) ?_
  exact we_h hx hb hr hk hP hD hS (Nat.le_of_ble_eq_true rfl) (Nat.le_of_ble_eq_true rfl) dL_withSecond_23

set_option maxRecDepth 100000 in
set_option maxHeartbeats 4000000 in
theorem hI_withNano (l : Launch) (hl9 : l.stackTraces = false) (G : GT) (a : Nat → Nat) (o : Nat) (n : Int64) (sv : Value) (S : SX) (p0 : Int32) (p1 : Int32) (hbad : ¬ (vp_in p0 6)) : HE l G yL_withNano cL_withNano 5 [(0, 11, 14, 25), (0, 11, 18, 19)] 10 1 6 [.ref (a 0), .int p0, .int p1, .ref o] (wH G a o n sv S) (wH G a o n sv S) (1 : Int32) := by
  refine HE.ofW (own := RL) rfl (by decide +kernel) (Nat.le_of_ble_eq_true rfl) ?_
  intro p e s m below meth c A C hr hk hT hN hE hP hD hA hAB hS ls hl
  have hx := C.1
  have hb := C.2.1
  have hown := C.2.2.2.1
  have hw := C.2.2.2.2
  have hl : lv_has ls 5 [(0, .ref (a 0)), (1, .int p0), (2, .int p1), (3, .ref o)] := hl
  have hPX : va_P (gD G) vwCl (wX G a S) s.heap := P_tail hP
  refine lv_aload_n hx hb dL_withNano_0 rfl (lv_at hl 3 rfl) ?_
  refine lv_aload_n hx hb dL_withNano_1 rfl (lv_at hl 0 rfl) ?_
  refine lv_iload_n hx hb dL_withNano_2 rfl (lv_at hl 1 rfl) ?_
  refine lv_iload_n hx hb dL_withNano_3 rfl (lv_at hl 2 rfl) ?_
  refine thV (as := [.int p0, .int p1]) (rest := [.ref o]) (cl := RX0) C (tI_X0_withNano l hl9 G a p0 p1 hbad) F_X0_withNano rfl bw523 bw524 bw525 hE hS hA (va_recv hE.K hPX (ci := 2) (q0 := 0) rfl rfl) hl.1 dL_withNano_4 ⟨Nat.le_of_ble_eq_true rfl, Nat.le_of_ble_eq_true rfl⟩ rfl (Nat.le_of_ble_eq_true rfl) ⟨Nat.le_of_ble_eq_true rfl, Nat.le_of_ble_eq_true rfl⟩ (fun q9 ce H1 locs1 hz ho hS1 hce hcv hcl => ?_)
  refine vx_catch hown [] ⟨0, 11, 14, 25⟩ [⟨0, 11, 18, 19⟩] (hT.trans rfl) (fun z hz => nomatch hz) (by decide) (by decide) (hw _ bw382) (castXX (hw _ bw391)) hce hcv hcl ?_
  refine lv_astore (lv' := [(4, .ref q9), (0, .ref (a 0)), (1, .int p0), (2, .int p1), (3, .ref o)]) hx hb dL_withNano_14 hl (Nat.le_of_ble_eq_true rfl) rfl (fun ls hl => ?_)
  refine lv_iconst (v := (1 : Int32)) hx hb dL_withNano_16 (by decide) ?_
  exact we_h hx hb hr hk (P_old hP ho) hD hS1 (Nat.le_of_ble_eq_true rfl) (Nat.le_of_ble_eq_true rfl) dL_withNano_17

set_option maxRecDepth 100000 in
set_option maxHeartbeats 4000000 in
theorem hA_withNano (l : Launch) (hl9 : l.stackTraces = false) (G : GT) (a : Nat → Nat) (o : Nat) (n : Int64) (sv : Value) (S : SX) (p0 : Int32) (p1 : Int32) (h0 : vp_in p0 6) (hbad : ¬ ((¬ p1 < (0 : Int32) ∧ p1 ≤ (999999999 : Int32)))) : HE l G yL_withNano cL_withNano 5 [(0, 11, 14, 25), (0, 11, 18, 19)] 10 1 6 [.ref (a 0), .int p0, .int p1, .ref o] (wH G a o n sv S) (wH G a o n sv S) (2 : Int32) := by
  refine HE.ofW (own := RL) rfl (by decide +kernel) (Nat.le_of_ble_eq_true rfl) ?_
  intro p e s m below meth c A C hr hk hT hN hE hP hD hA hAB hS ls hl
  have hx := C.1
  have hb := C.2.1
  have hown := C.2.2.2.1
  have hw := C.2.2.2.2
  have hl : lv_has ls 5 [(0, .ref (a 0)), (1, .int p0), (2, .int p1), (3, .ref o)] := hl
  have hPX : va_P (gD G) vwCl (wX G a S) s.heap := P_tail hP
  refine lv_aload_n hx hb dL_withNano_0 rfl (lv_at hl 3 rfl) ?_
  refine lv_aload_n hx hb dL_withNano_1 rfl (lv_at hl 0 rfl) ?_
  refine lv_iload_n hx hb dL_withNano_2 rfl (lv_at hl 1 rfl) ?_
  refine lv_iload_n hx hb dL_withNano_3 rfl (lv_at hl 2 rfl) ?_
  refine thV (as := [.int p0, .int p1]) (rest := [.ref o]) (cl := RX0) C (tA_X0_withNano l hl9 G a p0 p1 h0 hbad) F_X0_withNano rfl bw523 bw524 bw525 hE hS hA (va_recv hE.K hPX (ci := 2) (q0 := 0) rfl rfl) hl.1 dL_withNano_4 ⟨Nat.le_of_ble_eq_true rfl, Nat.le_of_ble_eq_true rfl⟩ rfl (Nat.le_of_ble_eq_true rfl) ⟨Nat.le_of_ble_eq_true rfl, Nat.le_of_ble_eq_true rfl⟩ (fun q9 ce H1 locs1 hz ho hS1 hce hcv hcl => ?_)
  refine vx_catch hown [⟨0, 11, 14, 25⟩] ⟨0, 11, 18, 19⟩ [] (hT.trans rfl) (fun z hz => by cases List.mem_singleton.mp hz; exact Or.inr ⟨by decide, eI, hw _ bw382, hN.1⟩) (by decide) (by decide) (hw _ bw303) (castXX (hw _ bw312)) hce hcv hcl ?_
  refine lv_astore (lv' := [(4, .ref q9), (0, .ref (a 0)), (1, .int p0), (2, .int p1), (3, .ref o)]) hx hb dL_withNano_18 hl (Nat.le_of_ble_eq_true rfl) rfl (fun ls hl => ?_)
  refine lv_iconst (v := (2 : Int32)) hx hb dL_withNano_20 (by decide) ?_
  exact we_h hx hb hr hk (P_old hP ho) hD hS1 (Nat.le_of_ble_eq_true rfl) (Nat.le_of_ble_eq_true rfl) dL_withNano_21

set_option maxRecDepth 100000 in
set_option maxHeartbeats 4000000 in
theorem hG_withNano (l : Launch) (hl9 : l.stackTraces = false) (G : GT) (a : Nat → Nat) (o : Nat) (n : Int64) (sv : Value) (S : SX) (p0 : Int32) (p1 : Int32) (h0 : vp_in p0 6) (r1 : ¬ p1 < (0 : Int32)) (q1 : p1 ≤ (999999999 : Int32)) : HE l G yL_withNano cL_withNano 5 [(0, 11, 14, 25), (0, 11, 18, 19)] 10 0 0 [.ref (a 0), .int p0, .int p1, .ref o] (wH G a o n sv S) (wH G a o ((gX0_withNano S p0 p1).1.toInt64) sv ((gX0_withNano S p0 p1).2)) (0 : Int32) := by
  refine HE.ofW (own := RL) rfl (by decide +kernel) (Nat.le_of_ble_eq_true rfl) ?_
  intro p e s m below meth c A C hr hk hT hN hE hP hD hA hAB hS ls hl
  have hx := C.1
  have hb := C.2.1
  have hown := C.2.2.2.1
  have hw := C.2.2.2.2
  have hl : lv_has ls 5 [(0, .ref (a 0)), (1, .int p0), (2, .int p1), (3, .ref o)] := hl
  have hPX : va_P (gD G) vwCl (wX G a S) s.heap := P_tail hP
  refine lv_aload_n hx hb dL_withNano_0 rfl (lv_at hl 3 rfl) ?_
  refine lv_aload_n hx hb dL_withNano_1 rfl (lv_at hl 0 rfl) ?_
  refine lv_iload_n hx hb dL_withNano_2 rfl (lv_at hl 1 rfl) ?_
  refine lv_iload_n hx hb dL_withNano_3 rfl (lv_at hl 2 rfl) ?_
  refine wcV1 (as := [.int p0, .int p1]) (rest := [.ref o]) (cl := RX0) C (c_X0_withNano l G a S p0 p1 h0 r1 q1) F_X0_withNano rfl bw523 bw524 bw525 hE hP hD hS hA hAB (va_recv hE.K hPX (ci := 2) (q0 := 0) rfl rfl) hl.1 dL_withNano_4 ⟨Nat.le_of_ble_eq_true rfl, Nat.le_of_ble_eq_true rfl⟩ rfl (Nat.le_of_ble_eq_true rfl) ⟨Nat.le_of_ble_eq_true rfl, Nat.le_of_ble_eq_true rfl⟩ (fun H locs hP hD hS => ?_)
  refine lv_i2l (v := (((gX0_withNano S p0 p1).1).toInt64)) hx hb dL_withNano_7 (by first | rfl | decide) ?_
  refine va_putN (D := gD G) (cl := vwCl) (tys := gT G) (ci := 3) (v := .long (((gX0_withNano S p0 p1).1).toInt64)) (ty := .long) (C := RX1) (T := TX1) (N := 2) hx hb hw inB_X1 tyX1 tyX1_ok nmX1 hown hE.K hP hD hS 0 rfl rfl 0 (by decide) (va_Nw.use rfl hN.2.1) (fun _ h9 => h9) rfl (by decide +kernel) rfl rfl (Nat.le_of_ble_eq_true rfl) dL_withNano_8 (fun H locs hP hD hS => ?_)
  refine lv_goto (tgt := 22) hx hb dL_withNano_11 (by decide) ?_
  refine lv_iconst (v := (0 : Int32)) hx hb dL_withNano_22 (by decide) ?_
  exact we_h hx hb hr hk hP hD hS (Nat.le_of_ble_eq_true rfl) (Nat.le_of_ble_eq_true rfl) dL_withNano_23

set_option maxRecDepth 100000 in
set_option maxHeartbeats 4000000 in
theorem hI_truncate (l : Launch) (hl9 : l.stackTraces = false) (G : GT) (a : Nat → Nat) (o : Nat) (n : Int64) (sv : Value) (S : SX) (p0 : Int32) (p1 : Int32) (hbad : ¬ (vp_in p0 6)) : HE l G yL_truncate cL_truncate 5 [(0, 11, 14, 25), (0, 11, 18, 19)] 10 1 6 [.ref (a 0), .int p0, .int p1, .ref o] (wH G a o n sv S) (wH G a o n sv S) (1 : Int32) := by
  refine HE.ofW (own := RL) rfl (by decide +kernel) (Nat.le_of_ble_eq_true rfl) ?_
  intro p e s m below meth c A C hr hk hT hN hE hP hD hA hAB hS ls hl
  have hx := C.1
  have hb := C.2.1
  have hown := C.2.2.2.1
  have hw := C.2.2.2.2
  have hl : lv_has ls 5 [(0, .ref (a 0)), (1, .int p0), (2, .int p1), (3, .ref o)] := hl
  have hPX : va_P (gD G) vwCl (wX G a S) s.heap := P_tail hP
  refine lv_aload_n hx hb dL_truncate_0 rfl (lv_at hl 3 rfl) ?_
  refine lv_aload_n hx hb dL_truncate_1 rfl (lv_at hl 0 rfl) ?_
  refine lv_iload_n hx hb dL_truncate_2 rfl (lv_at hl 1 rfl) ?_
  refine lv_iload_n hx hb dL_truncate_3 rfl (lv_at hl 2 rfl) ?_
  refine thV (as := [.int p0, .int p1]) (rest := [.ref o]) (cl := RX0) C (tI_X0_truncate l hl9 G a p0 p1 hbad) F_X0_truncate rfl bw530 bw531 bw532 hE hS hA (va_recv hE.K hPX (ci := 2) (q0 := 0) rfl rfl) hl.1 dL_truncate_4 ⟨Nat.le_of_ble_eq_true rfl, Nat.le_of_ble_eq_true rfl⟩ rfl (Nat.le_of_ble_eq_true rfl) ⟨Nat.le_of_ble_eq_true rfl, Nat.le_of_ble_eq_true rfl⟩ (fun q9 ce H1 locs1 hz ho hS1 hce hcv hcl => ?_)
  refine vx_catch hown [] ⟨0, 11, 14, 25⟩ [⟨0, 11, 18, 19⟩] (hT.trans rfl) (fun z hz => nomatch hz) (by decide) (by decide) (hw _ bw382) (castXX (hw _ bw391)) hce hcv hcl ?_
  refine lv_astore (lv' := [(4, .ref q9), (0, .ref (a 0)), (1, .int p0), (2, .int p1), (3, .ref o)]) hx hb dL_truncate_14 hl (Nat.le_of_ble_eq_true rfl) rfl (fun ls hl => ?_)
  refine lv_iconst (v := (1 : Int32)) hx hb dL_truncate_16 (by decide) ?_
  exact we_h hx hb hr hk (P_old hP ho) hD hS1 (Nat.le_of_ble_eq_true rfl) (Nat.le_of_ble_eq_true rfl) dL_truncate_17

set_option maxRecDepth 100000 in
set_option maxHeartbeats 4000000 in
theorem hA_truncate (l : Launch) (hl9 : l.stackTraces = false) (G : GT) (a : Nat → Nat) (o : Nat) (n : Int64) (sv : Value) (S : SX) (p0 : Int32) (p1 : Int32) (h0 : vp_in p0 6) (hbad : ¬ ((¬ p1 < (0 : Int32) ∧ p1 ≤ (7 : Int32)))) : HE l G yL_truncate cL_truncate 5 [(0, 11, 14, 25), (0, 11, 18, 19)] 10 1 6 [.ref (a 0), .int p0, .int p1, .ref o] (wH G a o n sv S) (wH G a o n sv S) (2 : Int32) := by
  refine HE.ofW (own := RL) rfl (by decide +kernel) (Nat.le_of_ble_eq_true rfl) ?_
  intro p e s m below meth c A C hr hk hT hN hE hP hD hA hAB hS ls hl
  have hx := C.1
  have hb := C.2.1
  have hown := C.2.2.2.1
  have hw := C.2.2.2.2
  have hl : lv_has ls 5 [(0, .ref (a 0)), (1, .int p0), (2, .int p1), (3, .ref o)] := hl
  have hPX : va_P (gD G) vwCl (wX G a S) s.heap := P_tail hP
  refine lv_aload_n hx hb dL_truncate_0 rfl (lv_at hl 3 rfl) ?_
  refine lv_aload_n hx hb dL_truncate_1 rfl (lv_at hl 0 rfl) ?_
  refine lv_iload_n hx hb dL_truncate_2 rfl (lv_at hl 1 rfl) ?_
  refine lv_iload_n hx hb dL_truncate_3 rfl (lv_at hl 2 rfl) ?_
  refine thV (as := [.int p0, .int p1]) (rest := [.ref o]) (cl := RX0) C (tA_X0_truncate l hl9 G a p0 p1 h0 hbad) F_X0_truncate rfl bw530 bw531 bw532 hE hS hA (va_recv hE.K hPX (ci := 2) (q0 := 0) rfl rfl) hl.1 dL_truncate_4 ⟨Nat.le_of_ble_eq_true rfl, Nat.le_of_ble_eq_true rfl⟩ rfl (Nat.le_of_ble_eq_true rfl) ⟨Nat.le_of_ble_eq_true rfl, Nat.le_of_ble_eq_true rfl⟩ (fun q9 ce H1 locs1 hz ho hS1 hce hcv hcl => ?_)
  refine vx_catch hown [⟨0, 11, 14, 25⟩] ⟨0, 11, 18, 19⟩ [] (hT.trans rfl) (fun z hz => by cases List.mem_singleton.mp hz; exact Or.inr ⟨by decide, eI, hw _ bw382, hN.1⟩) (by decide) (by decide) (hw _ bw303) (castXX (hw _ bw312)) hce hcv hcl ?_
  refine lv_astore (lv' := [(4, .ref q9), (0, .ref (a 0)), (1, .int p0), (2, .int p1), (3, .ref o)]) hx hb dL_truncate_18 hl (Nat.le_of_ble_eq_true rfl) rfl (fun ls hl => ?_)
  refine lv_iconst (v := (2 : Int32)) hx hb dL_truncate_20 (by decide) ?_
  exact we_h hx hb hr hk (P_old hP ho) hD hS1 (Nat.le_of_ble_eq_true rfl) (Nat.le_of_ble_eq_true rfl) dL_truncate_21

