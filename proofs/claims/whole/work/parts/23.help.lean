set_option maxRecDepth 100000 in
set_option maxHeartbeats 4000000 in
theorem hA_hand (l : Launch) (hl9 : l.stackTraces = false) (G : GT) (a : Nat → Nat) (o : Nat) (n : Int64) (sv : Value) (S : SX) (p0 : Int32) (p1 : Int32) (p2 : Int32) (p3 : Int32) (hbad : ¬ ((¬ p0 < (0 : Int32) ∧ p0 ≤ (23 : Int32)) ∧ (¬ p1 < (0 : Int32) ∧ p1 ≤ (59 : Int32)) ∧ (¬ p2 < (0 : Int32) ∧ p2 ≤ (59 : Int32)) ∧ (¬ p3 < (0 : Int32) ∧ p3 ≤ (999999999 : Int32)))) : HE l G yL_hand cL_hand 7 [(0, 15, 18, 19)] 10 1 6 [.ref (a 0), .int p0, .int p1, .int p2, .int p3, .ref o] (wH G a o n sv S) (wH G a o n sv S) (1 : Int32) := by
  refine HE.ofW (own := RL) rfl pnN_RL (Nat.le_of_ble_eq_true rfl) ?_
  intro p e s m below meth c A C hr hk hT hN hE hP hD hA hAB hS ls hl
  have hx := C.1
  have hb := C.2.1
  have hown := C.2.2.2.1
  have hw := C.2.2.2.2
  have hl : lv_has ls 7 [(0, .ref (a 0)), (1, .int p0), (2, .int p1), (3, .int p2), (4, .int p3), (5, .ref o)] := hl
  have hPX : va_P (gD G) vwCl (wX G a S) s.heap := P_tail hP
  refine lv_aload hx hb dL_hand_0 (lv_at hl 5 rfl) ?_
  refine lv_aload_n hx hb dL_hand_2 rfl (lv_at hl 0 rfl) ?_
  refine lv_iload_n hx hb dL_hand_3 rfl (lv_at hl 1 rfl) ?_
  refine lv_iload_n hx hb dL_hand_4 rfl (lv_at hl 2 rfl) ?_
  refine lv_iload_n hx hb dL_hand_5 rfl (lv_at hl 3 rfl) ?_
  refine lv_iload hx hb dL_hand_6 (lv_at hl 4 rfl) ?_
  refine thV (as := [.int p0, .int p1, .int p2, .int p3]) (rest := [.ref o]) (cl := RX0) C (tA_X0_hand l hl9 G a p0 p1 p2 p3 hbad) F_X0_hand rfl bw304 bw305 bw306 hE hS hA (rv2 hE.K hPX (q0 := 0) rfl) hl.1 dL_hand_8 ⟨Nat.le_of_ble_eq_true rfl, Nat.le_of_ble_eq_true rfl⟩ rfl (Nat.le_of_ble_eq_true rfl) ⟨Nat.le_of_ble_eq_true rfl, Nat.le_of_ble_eq_true rfl⟩ (fun q9 ce H1 locs1 hz ho hS1 hce hcv hcl => ?_)
  refine vx_catch hown [] ⟨0, 15, 18, 19⟩ [] (hT.trans rfl) (fun z hz => nomatch hz) (by decide) (by decide) (hw _ bw303) (castXX (hw _ bw312)) hce hcv hcl ?_
  refine lv_astore (lv' := [(6, .ref q9), (0, .ref (a 0)), (1, .int p0), (2, .int p1), (3, .int p2), (4, .int p3), (5, .ref o)]) hx hb dL_hand_18 hl (Nat.le_of_ble_eq_true rfl) rfl (fun ls hl => ?_)
  refine lv_iconst (v := (1 : Int32)) hx hb dL_hand_20 qi_1 ?_
  exact we_h hx hb hr hk (P_old hP ho) hD hS1 (Nat.le_of_ble_eq_true rfl) (Nat.le_of_ble_eq_true rfl) dL_hand_21

set_option maxRecDepth 100000 in
set_option maxHeartbeats 4000000 in
theorem hG_hand (l : Launch) (hl9 : l.stackTraces = false) (G : GT) (a : Nat → Nat) (o : Nat) (n : Int64) (sv : Value) (S : SX) (p0 : Int32) (p1 : Int32) (p2 : Int32) (p3 : Int32) (r0 : ¬ p0 < (0 : Int32)) (q0 : p0 ≤ (23 : Int32)) (r1 : ¬ p1 < (0 : Int32)) (q1 : p1 ≤ (59 : Int32)) (r2 : ¬ p2 < (0 : Int32)) (q2 : p2 ≤ (59 : Int32)) (r3 : ¬ p3 < (0 : Int32)) (q3 : p3 ≤ (999999999 : Int32)) : HE l G yL_hand cL_hand 7 [(0, 15, 18, 19)] 10 0 0 [.ref (a 0), .int p0, .int p1, .int p2, .int p3, .ref o] (wH G a o n sv S) (wH G a o ((gX0_hand S p0 p1 p2 p3).1.toInt64) sv ((gX0_hand S p0 p1 p2 p3).2)) (0 : Int32) := by
  refine HE.ofW (own := RL) rfl pnN_RL (Nat.le_of_ble_eq_true rfl) ?_
  intro p e s m below meth c A C hr hk hT hN hE hP hD hA hAB hS ls hl
  have hx := C.1
  have hb := C.2.1
  have hown := C.2.2.2.1
  have hw := C.2.2.2.2
  have hl : lv_has ls 7 [(0, .ref (a 0)), (1, .int p0), (2, .int p1), (3, .int p2), (4, .int p3), (5, .ref o)] := hl
  have hPX : va_P (gD G) vwCl (wX G a S) s.heap := P_tail hP
  refine lv_aload hx hb dL_hand_0 (lv_at hl 5 rfl) ?_
  refine lv_aload_n hx hb dL_hand_2 rfl (lv_at hl 0 rfl) ?_
  refine lv_iload_n hx hb dL_hand_3 rfl (lv_at hl 1 rfl) ?_
  refine lv_iload_n hx hb dL_hand_4 rfl (lv_at hl 2 rfl) ?_
  refine lv_iload_n hx hb dL_hand_5 rfl (lv_at hl 3 rfl) ?_
  refine lv_iload hx hb dL_hand_6 (lv_at hl 4 rfl) ?_
  refine wcV1 (as := [.int p0, .int p1, .int p2, .int p3]) (rest := [.ref o]) (cl := RX0) C (c_X0_hand l G a S p0 p1 p2 p3 r0 q0 r1 q1 r2 q2 r3 q3) F_X0_hand rfl bw304 bw305 bw306 hE hP hD hS hA hAB (rv2 hE.K hPX (q0 := 0) rfl) hl.1 dL_hand_8 ⟨Nat.le_of_ble_eq_true rfl, Nat.le_of_ble_eq_true rfl⟩ rfl (Nat.le_of_ble_eq_true rfl) ⟨Nat.le_of_ble_eq_true rfl, Nat.le_of_ble_eq_true rfl⟩ (fun H locs hP hD hS => ?_)
  refine lv_i2l (v := (((gX0_hand S p0 p1 p2 p3).1).toInt64)) hx hb dL_hand_11 (by first | rfl | decide) ?_
  refine va_putN (D := gD G) (cl := vwCl) (tys := gT G) (ci := 3) (v := .long (((gX0_hand S p0 p1 p2 p3).1).toInt64)) (ty := .long) (C := RX1) (T := TX1) (N := 2) hx hb hw inB_X1 tyX1 tyX1_ok nmX1 hown hE.K hP hD hS 0 rfl rfl 0 (by decide) (va_Nw.use rfl hN.2.1) (fun _ h9 => h9) rfl (by decide +kernel) rfl rfl (Nat.le_of_ble_eq_true rfl) dL_hand_12 (fun H locs hP hD hS => ?_)
  refine lv_goto (tgt := 22) hx hb dL_hand_15 (by decide) ?_
  refine lv_iconst (v := (0 : Int32)) hx hb dL_hand_22 qi_0 ?_
  exact we_h hx hb hr hk hP hD hS (Nat.le_of_ble_eq_true rfl) (Nat.le_of_ble_eq_true rfl) dL_hand_23

set_option maxRecDepth 100000 in
set_option maxHeartbeats 4000000 in
theorem hI_of (l : Launch) (hl9 : l.stackTraces = false) (G : GT) (a : Nat → Nat) (o : Nat) (n : Int64) (sv : Value) (S : SX) (p0 : Int32) (p1 : Int32) (p2 : Int32) (p3 : Int32) (p4 : Int32) (hbad : ¬ (vp_in p0 6)) : HE l G yL_of cL_of 8 [(0, 17, 20, 25), (0, 17, 24, 19)] 10 1 6 [.ref (a 0), .int p0, .int p1, .int p2, .int p3, .int p4, .ref o] (wH G a o n sv S) (wH G a o n sv S) (1 : Int32) := by
  refine HE.ofW (own := RL) rfl pnN_RL (Nat.le_of_ble_eq_true rfl) ?_
  intro p e s m below meth c A C hr hk hT hN hE hP hD hA hAB hS ls hl
  have hx := C.1
  have hb := C.2.1
  have hown := C.2.2.2.1
  have hw := C.2.2.2.2
  have hl : lv_has ls 8 [(0, .ref (a 0)), (1, .int p0), (2, .int p1), (3, .int p2), (4, .int p3), (5, .int p4), (6, .ref o)] := hl
  have hPX : va_P (gD G) vwCl (wX G a S) s.heap := P_tail hP
  refine lv_aload hx hb dL_of_0 (lv_at hl 6 rfl) ?_
  refine lv_aload_n hx hb dL_of_2 rfl (lv_at hl 0 rfl) ?_
  refine lv_iload_n hx hb dL_of_3 rfl (lv_at hl 1 rfl) ?_
  refine lv_iload_n hx hb dL_of_4 rfl (lv_at hl 2 rfl) ?_
  refine lv_iload_n hx hb dL_of_5 rfl (lv_at hl 3 rfl) ?_
  refine lv_iload hx hb dL_of_6 (lv_at hl 4 rfl) ?_
  refine lv_iload hx hb dL_of_8 (lv_at hl 5 rfl) ?_
  refine thV (as := [.int p0, .int p1, .int p2, .int p3, .int p4]) (rest := [.ref o]) (cl := RX0) C (tI_X0_of l hl9 G a p0 p1 p2 p3 p4 hbad) F_X0_of rfl bw383 bw384 bw385 hE hS hA (rv2 hE.K hPX (q0 := 0) rfl) hl.1 dL_of_10 ⟨Nat.le_of_ble_eq_true rfl, Nat.le_of_ble_eq_true rfl⟩ rfl (Nat.le_of_ble_eq_true rfl) ⟨Nat.le_of_ble_eq_true rfl, Nat.le_of_ble_eq_true rfl⟩ (fun q9 ce H1 locs1 hz ho hS1 hce hcv hcl => ?_)
  refine vx_catch hown [] ⟨0, 17, 20, 25⟩ [⟨0, 17, 24, 19⟩] (hT.trans rfl) (fun z hz => nomatch hz) (by decide) (by decide) (hw _ bw382) (castXX (hw _ bw391)) hce hcv hcl ?_
  refine lv_astore (lv' := [(7, .ref q9), (0, .ref (a 0)), (1, .int p0), (2, .int p1), (3, .int p2), (4, .int p3), (5, .int p4), (6, .ref o)]) hx hb dL_of_20 hl (Nat.le_of_ble_eq_true rfl) rfl (fun ls hl => ?_)
  refine lv_iconst (v := (1 : Int32)) hx hb dL_of_22 qi_1 ?_
  exact we_h hx hb hr hk (P_old hP ho) hD hS1 (Nat.le_of_ble_eq_true rfl) (Nat.le_of_ble_eq_true rfl) dL_of_23

set_option maxRecDepth 100000 in
set_option maxHeartbeats 4000000 in
theorem hA_of (l : Launch) (hl9 : l.stackTraces = false) (G : GT) (a : Nat → Nat) (o : Nat) (n : Int64) (sv : Value) (S : SX) (p0 : Int32) (p1 : Int32) (p2 : Int32) (p3 : Int32) (p4 : Int32) (h0 : vp_in p0 6) (hbad : ¬ ((¬ p1 < (-9999 : Int32) ∧ p1 ≤ (9999 : Int32)) ∧ (¬ p2 < (1 : Int32) ∧ p2 ≤ (12 : Int32)) ∧ (¬ p3 < (1 : Int32) ∧ p3 ≤ (31 : Int32)) ∧ (¬ p4 < (0 : Int32) ∧ p4 ≤ (6 : Int32)))) : HE l G yL_of cL_of 8 [(0, 17, 20, 25), (0, 17, 24, 19)] 10 1 6 [.ref (a 0), .int p0, .int p1, .int p2, .int p3, .int p4, .ref o] (wH G a o n sv S) (wH G a o n sv S) (2 : Int32) := by
  refine HE.ofW (own := RL) rfl pnN_RL (Nat.le_of_ble_eq_true rfl) ?_
  intro p e s m below meth c A C hr hk hT hN hE hP hD hA hAB hS ls hl
  have hx := C.1
  have hb := C.2.1
  have hown := C.2.2.2.1
  have hw := C.2.2.2.2
  have hl : lv_has ls 8 [(0, .ref (a 0)), (1, .int p0), (2, .int p1), (3, .int p2), (4, .int p3), (5, .int p4), (6, .ref o)] := hl
  have hPX : va_P (gD G) vwCl (wX G a S) s.heap := P_tail hP
  refine lv_aload hx hb dL_of_0 (lv_at hl 6 rfl) ?_
  refine lv_aload_n hx hb dL_of_2 rfl (lv_at hl 0 rfl) ?_
  refine lv_iload_n hx hb dL_of_3 rfl (lv_at hl 1 rfl) ?_
  refine lv_iload_n hx hb dL_of_4 rfl (lv_at hl 2 rfl) ?_
  refine lv_iload_n hx hb dL_of_5 rfl (lv_at hl 3 rfl) ?_
  refine lv_iload hx hb dL_of_6 (lv_at hl 4 rfl) ?_
  refine lv_iload hx hb dL_of_8 (lv_at hl 5 rfl) ?_
  refine thV (as := [.int p0, .int p1, .int p2, .int p3, .int p4]) (rest := [.ref o]) (cl := RX0) C (tA_X0_of l hl9 G a p0 p1 p2 p3 p4 h0 hbad) F_X0_of rfl bw383 bw384 bw385 hE hS hA (rv2 hE.K hPX (q0 := 0) rfl) hl.1 dL_of_10 ⟨Nat.le_of_ble_eq_true rfl, Nat.le_of_ble_eq_true rfl⟩ rfl (Nat.le_of_ble_eq_true rfl) ⟨Nat.le_of_ble_eq_true rfl, Nat.le_of_ble_eq_true rfl⟩ (fun q9 ce H1 locs1 hz ho hS1 hce hcv hcl => ?_)
  refine vx_catch hown [⟨0, 17, 20, 25⟩] ⟨0, 17, 24, 19⟩ [] (hT.trans rfl) (fun z hz => by cases List.mem_singleton.mp hz; exact Or.inr ⟨by decide, eI, hw _ bw382, hN.1⟩) (by decide) (by decide) (hw _ bw303) (castXX (hw _ bw312)) hce hcv hcl ?_
  refine lv_astore (lv' := [(7, .ref q9), (0, .ref (a 0)), (1, .int p0), (2, .int p1), (3, .int p2), (4, .int p3), (5, .int p4), (6, .ref o)]) hx hb dL_of_24 hl (Nat.le_of_ble_eq_true rfl) rfl (fun ls hl => ?_)
  refine lv_iconst (v := (2 : Int32)) hx hb dL_of_26 qi_2 ?_
  exact we_h hx hb hr hk (P_old hP ho) hD hS1 (Nat.le_of_ble_eq_true rfl) (Nat.le_of_ble_eq_true rfl) dL_of_27

set_option maxRecDepth 100000 in
set_option maxHeartbeats 4000000 in
theorem hG_of (l : Launch) (hl9 : l.stackTraces = false) (G : GT) (a : Nat → Nat) (o : Nat) (n : Int64) (sv : Value) (S : SX) (p0 : Int32) (p1 : Int32) (p2 : Int32) (p3 : Int32) (p4 : Int32) (h0 : vp_in p0 6) (r1 : ¬ p1 < (-9999 : Int32)) (q1 : p1 ≤ (9999 : Int32)) (r2 : ¬ p2 < (1 : Int32)) (q2 : p2 ≤ (12 : Int32)) (r3 : ¬ p3 < (1 : Int32)) (q3 : p3 ≤ (31 : Int32)) (r4 : ¬ p4 < (0 : Int32)) (q4 : p4 ≤ (6 : Int32)) : HE l G yL_of cL_of 8 [(0, 17, 20, 25), (0, 17, 24, 19)] 10 0 0 [.ref (a 0), .int p0, .int p1, .int p2, .int p3, .int p4, .ref o] (wH G a o n sv S) (wH G a o ((gX0_of S p0 p1 p2 p3 p4).1.toInt64) sv ((gX0_of S p0 p1 p2 p3 p4).2)) (0 : Int32) := by
  refine HE.ofW (own := RL) rfl pnN_RL (Nat.le_of_ble_eq_true rfl) ?_
  intro p e s m below meth c A C hr hk hT hN hE hP hD hA hAB hS ls hl
  have hx := C.1
  have hb := C.2.1
  have hown := C.2.2.2.1
  have hw := C.2.2.2.2
  have hl : lv_has ls 8 [(0, .ref (a 0)), (1, .int p0), (2, .int p1), (3, .int p2), (4, .int p3), (5, .int p4), (6, .ref o)] := hl
  have hPX : va_P (gD G) vwCl (wX G a S) s.heap := P_tail hP
  refine lv_aload hx hb dL_of_0 (lv_at hl 6 rfl) ?_
  refine lv_aload_n hx hb dL_of_2 rfl (lv_at hl 0 rfl) ?_
  refine lv_iload_n hx hb dL_of_3 rfl (lv_at hl 1 rfl) ?_
  refine lv_iload_n hx hb dL_of_4 rfl (lv_at hl 2 rfl) ?_
  refine lv_iload_n hx hb dL_of_5 rfl (lv_at hl 3 rfl) ?_
  refine lv_iload hx hb dL_of_6 (lv_at hl 4 rfl) ?_
  refine lv_iload hx hb dL_of_8 (lv_at hl 5 rfl) ?_
  refine wcV1 (as := [.int p0, .int p1, .int p2, .int p3, .int p4]) (rest := [.ref o]) (cl := RX0) C (c_X0_of l G a S p0 p1 p2 p3 p4 h0 r1 q1 r2 q2 r3 q3 r4 q4) F_X0_of rfl bw383 bw384 bw385 hE hP hD hS hA hAB (rv2 hE.K hPX (q0 := 0) rfl) hl.1 dL_of_10 ⟨Nat.le_of_ble_eq_true rfl, Nat.le_of_ble_eq_true rfl⟩ rfl (Nat.le_of_ble_eq_true rfl) ⟨Nat.le_of_ble_eq_true rfl, Nat.le_of_ble_eq_true rfl⟩ (fun H locs hP hD hS => ?_)
  refine lv_i2l (v := (((gX0_of S p0 p1 p2 p3 p4).1).toInt64)) hx hb dL_of_13 (by first | rfl | decide) ?_
  refine va_putN (D := gD G) (cl := vwCl) (tys := gT G) (ci := 3) (v := .long (((gX0_of S p0 p1 p2 p3 p4).1).toInt64)) (ty := .long) (C := RX1) (T := TX1) (N := 2) hx hb hw inB_X1 tyX1 tyX1_ok nmX1 hown hE.K hP hD hS 0 rfl rfl 0 (by decide) (va_Nw.use rfl hN.2.1) (fun _ h9 => h9) rfl (by decide +kernel) rfl rfl (Nat.le_of_ble_eq_true rfl) dL_of_14 (fun H locs hP hD hS => ?_)
  refine lv_goto (tgt := 28) hx hb dL_of_17 (by decide) ?_
  refine lv_iconst (v := (0 : Int32)) hx hb dL_of_28 qi_0 ?_
  exact we_h hx hb hr hk hP hD hS (Nat.le_of_ble_eq_true rfl) (Nat.le_of_ble_eq_true rfl) dL_of_29

set_option maxRecDepth 100000 in
set_option maxHeartbeats 4000000 in
theorem hI_ofDay (l : Launch) (hl9 : l.stackTraces = false) (G : GT) (a : Nat → Nat) (o : Nat) (n : Int64) (sv : Value) (S : SX) (p0 : Int32) (p1 : Int32) (hbad : ¬ (vp_in p0 6)) : HE l G yL_ofDay cL_ofDay 5 [(0, 11, 14, 25), (0, 11, 18, 19)] 10 1 6 [.ref (a 0), .int p0, .int p1, .ref o] (wH G a o n sv S) (wH G a o n sv S) (1 : Int32) := by
  refine HE.ofW (own := RL) rfl pnN_RL (Nat.le_of_ble_eq_true rfl) ?_
  intro p e s m below meth c A C hr hk hT hN hE hP hD hA hAB hS ls hl
  have hx := C.1
  have hb := C.2.1
  have hown := C.2.2.2.1
  have hw := C.2.2.2.2
  have hl : lv_has ls 5 [(0, .ref (a 0)), (1, .int p0), (2, .int p1), (3, .ref o)] := hl
  have hPX : va_P (gD G) vwCl (wX G a S) s.heap := P_tail hP
  refine lv_aload_n hx hb dL_ofDay_0 rfl (lv_at hl 3 rfl) ?_
  refine lv_aload_n hx hb dL_ofDay_1 rfl (lv_at hl 0 rfl) ?_
  refine lv_iload_n hx hb dL_ofDay_2 rfl (lv_at hl 1 rfl) ?_
  refine lv_iload_n hx hb dL_ofDay_3 rfl (lv_at hl 2 rfl) ?_
  refine thV (as := [.int p0, .int p1]) (rest := [.ref o]) (cl := RX0) C (tI_X0_ofDay l hl9 G a p0 p1 hbad) F_X0_ofDay rfl bw421 bw422 bw423 hE hS hA (rv2 hE.K hPX (q0 := 0) rfl) hl.1 dL_ofDay_4 ⟨Nat.le_of_ble_eq_true rfl, Nat.le_of_ble_eq_true rfl⟩ rfl (Nat.le_of_ble_eq_true rfl) ⟨Nat.le_of_ble_eq_true rfl, Nat.le_of_ble_eq_true rfl⟩ (fun q9 ce H1 locs1 hz ho hS1 hce hcv hcl => ?_)
  refine vx_catch hown [] ⟨0, 11, 14, 25⟩ [⟨0, 11, 18, 19⟩] (hT.trans rfl) (fun z hz => nomatch hz) (by decide) (by decide) (hw _ bw382) (castXX (hw _ bw391)) hce hcv hcl ?_
  refine lv_astore (lv' := [(4, .ref q9), (0, .ref (a 0)), (1, .int p0), (2, .int p1), (3, .ref o)]) hx hb dL_ofDay_14 hl (Nat.le_of_ble_eq_true rfl) rfl (fun ls hl => ?_)
  refine lv_iconst (v := (1 : Int32)) hx hb dL_ofDay_16 qi_1 ?_
  exact we_h hx hb hr hk (P_old hP ho) hD hS1 (Nat.le_of_ble_eq_true rfl) (Nat.le_of_ble_eq_true rfl) dL_ofDay_17

set_option maxRecDepth 100000 in
set_option maxHeartbeats 4000000 in
theorem hA_ofDay (l : Launch) (hl9 : l.stackTraces = false) (G : GT) (a : Nat → Nat) (o : Nat) (n : Int64) (sv : Value) (S : SX) (p0 : Int32) (p1 : Int32) (h0 : vp_in p0 6) (hbad : ¬ ((¬ p1 < (-10000000 : Int32) ∧ p1 ≤ (10000000 : Int32)))) : HE l G yL_ofDay cL_ofDay 5 [(0, 11, 14, 25), (0, 11, 18, 19)] 10 1 6 [.ref (a 0), .int p0, .int p1, .ref o] (wH G a o n sv S) (wH G a o n sv S) (2 : Int32) := by
  refine HE.ofW (own := RL) rfl pnN_RL (Nat.le_of_ble_eq_true rfl) ?_
  intro p e s m below meth c A C hr hk hT hN hE hP hD hA hAB hS ls hl
  have hx := C.1
  have hb := C.2.1
  have hown := C.2.2.2.1
  have hw := C.2.2.2.2
  have hl : lv_has ls 5 [(0, .ref (a 0)), (1, .int p0), (2, .int p1), (3, .ref o)] := hl
  have hPX : va_P (gD G) vwCl (wX G a S) s.heap := P_tail hP
  refine lv_aload_n hx hb dL_ofDay_0 rfl (lv_at hl 3 rfl) ?_
  refine lv_aload_n hx hb dL_ofDay_1 rfl (lv_at hl 0 rfl) ?_
  refine lv_iload_n hx hb dL_ofDay_2 rfl (lv_at hl 1 rfl) ?_
  refine lv_iload_n hx hb dL_ofDay_3 rfl (lv_at hl 2 rfl) ?_
  refine thV (as := [.int p0, .int p1]) (rest := [.ref o]) (cl := RX0) C (tA_X0_ofDay l hl9 G a p0 p1 h0 hbad) F_X0_ofDay rfl bw421 bw422 bw423 hE hS hA (rv2 hE.K hPX (q0 := 0) rfl) hl.1 dL_ofDay_4 ⟨Nat.le_of_ble_eq_true rfl, Nat.le_of_ble_eq_true rfl⟩ rfl (Nat.le_of_ble_eq_true rfl) ⟨Nat.le_of_ble_eq_true rfl, Nat.le_of_ble_eq_true rfl⟩ (fun q9 ce H1 locs1 hz ho hS1 hce hcv hcl => ?_)
  refine vx_catch hown [⟨0, 11, 14, 25⟩] ⟨0, 11, 18, 19⟩ [] (hT.trans rfl) (fun z hz => by cases List.mem_singleton.mp hz; exact Or.inr ⟨by decide, eI, hw _ bw382, hN.1⟩) (by decide) (by decide) (hw _ bw303) (castXX (hw _ bw312)) hce hcv hcl ?_
  refine lv_astore (lv' := [(4, .ref q9), (0, .ref (a 0)), (1, .int p0), (2, .int p1), (3, .ref o)]) hx hb dL_ofDay_18 hl (Nat.le_of_ble_eq_true rfl) rfl (fun ls hl => ?_)
  refine lv_iconst (v := (2 : Int32)) hx hb dL_ofDay_20 qi_2 ?_
  exact we_h hx hb hr hk (P_old hP ho) hD hS1 (Nat.le_of_ble_eq_true rfl) (Nat.le_of_ble_eq_true rfl) dL_ofDay_21

set_option maxRecDepth 100000 in
set_option maxHeartbeats 4000000 in
theorem hG_ofDay (l : Launch) (hl9 : l.stackTraces = false) (G : GT) (a : Nat → Nat) (o : Nat) (n : Int64) (sv : Value) (S : SX) (p0 : Int32) (p1 : Int32) (h0 : vp_in p0 6) (r1 : ¬ p1 < (-10000000 : Int32)) (q1 : p1 ≤ (10000000 : Int32)) : HE l G yL_ofDay cL_ofDay 5 [(0, 11, 14, 25), (0, 11, 18, 19)] 10 0 0 [.ref (a 0), .int p0, .int p1, .ref o] (wH G a o n sv S) (wH G a o ((gX0_ofDay S p0 p1).1.toInt64) sv ((gX0_ofDay S p0 p1).2)) (0 : Int32) := by
  refine HE.ofW (own := RL) rfl pnN_RL (Nat.le_of_ble_eq_true rfl) ?_
  intro p e s m below meth c A C hr hk hT hN hE hP hD hA hAB hS ls hl
  have hx := C.1
  have hb := C.2.1
  have hown := C.2.2.2.1
  have hw := C.2.2.2.2
  have hl : lv_has ls 5 [(0, .ref (a 0)), (1, .int p0), (2, .int p1), (3, .ref o)] := hl
  have hPX : va_P (gD G) vwCl (wX G a S) s.heap := P_tail hP
  refine lv_aload_n hx hb dL_ofDay_0 rfl (lv_at hl 3 rfl) ?_
  refine lv_aload_n hx hb dL_ofDay_1 rfl (lv_at hl 0 rfl) ?_
  refine lv_iload_n hx hb dL_ofDay_2 rfl (lv_at hl 1 rfl) ?_
  refine lv_iload_n hx hb dL_ofDay_3 rfl (lv_at hl 2 rfl) ?_
  refine wcV1 (as := [.int p0, .int p1]) (rest := [.ref o]) (cl := RX0) C (c_X0_ofDay l G a S p0 p1 h0 r1 q1) F_X0_ofDay rfl bw421 bw422 bw423 hE hP hD hS hA hAB (rv2 hE.K hPX (q0 := 0) rfl) hl.1 dL_ofDay_4 ⟨Nat.le_of_ble_eq_true rfl, Nat.le_of_ble_eq_true rfl⟩ rfl (Nat.le_of_ble_eq_true rfl) ⟨Nat.le_of_ble_eq_true rfl, Nat.le_of_ble_eq_true rfl⟩ (fun H locs hP hD hS => ?_)
  refine lv_i2l (v := (((gX0_ofDay S p0 p1).1).toInt64)) hx hb dL_ofDay_7 (by first | rfl | decide) ?_
  refine va_putN (D := gD G) (cl := vwCl) (tys := gT G) (ci := 3) (v := .long (((gX0_ofDay S p0 p1).1).toInt64)) (ty := .long) (C := RX1) (T := TX1) (N := 2) hx hb hw inB_X1 tyX1 tyX1_ok nmX1 hown hE.K hP hD hS 0 rfl rfl 0 (by decide) (va_Nw.use rfl hN.2.1) (fun _ h9 => h9) rfl (by decide +kernel) rfl rfl (Nat.le_of_ble_eq_true rfl) dL_ofDay_8 (fun H locs hP hD hS => ?_)
  refine lv_goto (tgt := 22) hx hb dL_ofDay_11 (by decide) ?_
  refine lv_iconst (v := (0 : Int32)) hx hb dL_ofDay_22 qi_0 ?_
  exact we_h hx hb hr hk hP hD hS (Nat.le_of_ble_eq_true rfl) (Nat.le_of_ble_eq_true rfl) dL_ofDay_23

set_option maxRecDepth 100000 in
set_option maxHeartbeats 4000000 in
theorem hI_copy (l : Launch) (hl9 : l.stackTraces = false) (G : GT) (a : Nat → Nat) (o : Nat) (n : Int64) (sv : Value) (S : SX) (p0 : Int32) (p1 : Int32) (hbad : ¬ (vp_in p0 6 ∧ vp_in p1 6)) : HE l G yL_copy cL_copy 5 [(0, 11, 14, 25)] 10 1 6 [.ref (a 0), .int p0, .int p1, .ref o] (wH G a o n sv S) (wH G a o n sv S) (1 : Int32) := by
  refine HE.ofW (own := RL) rfl pnN_RL (Nat.le_of_ble_eq_true rfl) ?_
  intro p e s m below meth c A C hr hk hT hN hE hP hD hA hAB hS ls hl
  have hx := C.1
  have hb := C.2.1
  have hown := C.2.2.2.1
  have hw := C.2.2.2.2
  have hl : lv_has ls 5 [(0, .ref (a 0)), (1, .int p0), (2, .int p1), (3, .ref o)] := hl
  have hPX : va_P (gD G) vwCl (wX G a S) s.heap := P_tail hP
  refine lv_aload_n hx hb dL_copy_0 rfl (lv_at hl 3 rfl) ?_
  refine lv_aload_n hx hb dL_copy_1 rfl (lv_at hl 0 rfl) ?_
  refine lv_iload_n hx hb dL_copy_2 rfl (lv_at hl 1 rfl) ?_
  refine lv_iload_n hx hb dL_copy_3 rfl (lv_at hl 2 rfl) ?_
  refine thV (as := [.int p0, .int p1]) (rest := [.ref o]) (cl := RX0) C (tI_X0_copy l hl9 G a p0 p1 hbad) F_X0_copy rfl bw442 bw443 bw444 hE hS hA (rv2 hE.K hPX (q0 := 0) rfl) hl.1 dL_copy_4 ⟨Nat.le_of_ble_eq_true rfl, Nat.le_of_ble_eq_true rfl⟩ rfl (Nat.le_of_ble_eq_true rfl) ⟨Nat.le_of_ble_eq_true rfl, Nat.le_of_ble_eq_true rfl⟩ (fun q9 ce H1 locs1 hz ho hS1 hce hcv hcl => ?_)
  refine vx_catch hown [] ⟨0, 11, 14, 25⟩ [] (hT.trans rfl) (fun z hz => nomatch hz) (by decide) (by decide) (hw _ bw382) (castXX (hw _ bw391)) hce hcv hcl ?_
  refine lv_astore (lv' := [(4, .ref q9), (0, .ref (a 0)), (1, .int p0), (2, .int p1), (3, .ref o)]) hx hb dL_copy_14 hl (Nat.le_of_ble_eq_true rfl) rfl (fun ls hl => ?_)
  refine lv_iconst (v := (1 : Int32)) hx hb dL_copy_16 qi_1 ?_
  exact we_h hx hb hr hk (P_old hP ho) hD hS1 (Nat.le_of_ble_eq_true rfl) (Nat.le_of_ble_eq_true rfl) dL_copy_17

set_option maxRecDepth 100000 in
set_option maxHeartbeats 4000000 in
theorem hG_copy (l : Launch) (hl9 : l.stackTraces = false) (G : GT) (a : Nat → Nat) (o : Nat) (n : Int64) (sv : Value) (S : SX) (p0 : Int32) (p1 : Int32) (h0 : vp_in p0 6) (h1 : vp_in p1 6) : HE l G yL_copy cL_copy 5 [(0, 11, 14, 25)] 10 0 0 [.ref (a 0), .int p0, .int p1, .ref o] (wH G a o n sv S) (wH G a o ((gX0_copy S p0 p1).1.toInt64) sv ((gX0_copy S p0 p1).2)) (0 : Int32) := by
  refine HE.ofW (own := RL) rfl pnN_RL (Nat.le_of_ble_eq_true rfl) ?_
  intro p e s m below meth c A C hr hk hT hN hE hP hD hA hAB hS ls hl
  have hx := C.1
  have hb := C.2.1
  have hown := C.2.2.2.1
  have hw := C.2.2.2.2
  have hl : lv_has ls 5 [(0, .ref (a 0)), (1, .int p0), (2, .int p1), (3, .ref o)] := hl
  have hPX : va_P (gD G) vwCl (wX G a S) s.heap := P_tail hP
  refine lv_aload_n hx hb dL_copy_0 rfl (lv_at hl 3 rfl) ?_
  refine lv_aload_n hx hb dL_copy_1 rfl (lv_at hl 0 rfl) ?_
  refine lv_iload_n hx hb dL_copy_2 rfl (lv_at hl 1 rfl) ?_
  refine lv_iload_n hx hb dL_copy_3 rfl (lv_at hl 2 rfl) ?_
  refine wcV1 (as := [.int p0, .int p1]) (rest := [.ref o]) (cl := RX0) C (c_X0_copy l G a S p0 p1 h0 h1) F_X0_copy rfl bw442 bw443 bw444 hE hP hD hS hA hAB (rv2 hE.K hPX (q0 := 0) rfl) hl.1 dL_copy_4 ⟨Nat.le_of_ble_eq_true rfl, Nat.le_of_ble_eq_true rfl⟩ rfl (Nat.le_of_ble_eq_true rfl) ⟨Nat.le_of_ble_eq_true rfl, Nat.le_of_ble_eq_true rfl⟩ (fun H locs hP hD hS => ?_)
  refine lv_i2l (v := (((gX0_copy S p0 p1).1).toInt64)) hx hb dL_copy_7 (by first | rfl | decide) ?_
  refine va_putN (D := gD G) (cl := vwCl) (tys := gT G) (ci := 3) (v := .long (((gX0_copy S p0 p1).1).toInt64)) (ty := .long) (C := RX1) (T := TX1) (N := 2) hx hb hw inB_X1 tyX1 tyX1_ok nmX1 hown hE.K hP hD hS 0 rfl rfl 0 (by decide) (va_Nw.use rfl hN.2.1) (fun _ h9 => h9) rfl (by decide +kernel) rfl rfl (Nat.le_of_ble_eq_true rfl) dL_copy_8 (fun H locs hP hD hS => ?_)
  refine lv_goto (tgt := 18) hx hb dL_copy_11 (by decide) ?_
  refine lv_iconst (v := (0 : Int32)) hx hb dL_copy_18 qi_0 ?_
  exact we_h hx hb hr hk hP hD hS (Nat.le_of_ble_eq_true rfl) (Nat.le_of_ble_eq_true rfl) dL_copy_19

set_option maxRecDepth 100000 in
set_option maxHeartbeats 4000000 in
theorem hI_takeDate (l : Launch) (hl9 : l.stackTraces = false) (G : GT) (a : Nat → Nat) (o : Nat) (n : Int64) (sv : Value) (S : SX) (p0 : Int32) (p1 : Int32) (hbad : ¬ (vp_in p0 6 ∧ vp_in p1 6)) : HE l G yL_takeDate cL_takeDate 5 [(0, 11, 14, 25)] 10 1 6 [.ref (a 0), .int p0, .int p1, .ref o] (wH G a o n sv S) (wH G a o n sv S) (1 : Int32) := by
  refine HE.ofW (own := RL) rfl pnN_RL (Nat.le_of_ble_eq_true rfl) ?_
  intro p e s m below meth c A C hr hk hT hN hE hP hD hA hAB hS ls hl
  have hx := C.1
  have hb := C.2.1
  have hown := C.2.2.2.1
  have hw := C.2.2.2.2
  have hl : lv_has ls 5 [(0, .ref (a 0)), (1, .int p0), (2, .int p1), (3, .ref o)] := hl
  have hPX : va_P (gD G) vwCl (wX G a S) s.heap := P_tail hP
  refine lv_aload_n hx hb dL_takeDate_0 rfl (lv_at hl 3 rfl) ?_
  refine lv_aload_n hx hb dL_takeDate_1 rfl (lv_at hl 0 rfl) ?_
  refine lv_iload_n hx hb dL_takeDate_2 rfl (lv_at hl 1 rfl) ?_
  refine lv_iload_n hx hb dL_takeDate_3 rfl (lv_at hl 2 rfl) ?_
  refine thV (as := [.int p0, .int p1]) (rest := [.ref o]) (cl := RX0) C (tI_X0_takeDate l hl9 G a p0 p1 hbad) F_X0_takeDate rfl bw453 bw454 bw455 hE hS hA (rv2 hE.K hPX (q0 := 0) rfl) hl.1 dL_takeDate_4 ⟨Nat.le_of_ble_eq_true rfl, Nat.le_of_ble_eq_true rfl⟩ rfl (Nat.le_of_ble_eq_true rfl) ⟨Nat.le_of_ble_eq_true rfl, Nat.le_of_ble_eq_true rfl⟩ (fun q9 ce H1 locs1 hz ho hS1 hce hcv hcl => ?_)
  refine vx_catch hown [] ⟨0, 11, 14, 25⟩ [] (hT.trans rfl) (fun z hz => nomatch hz) (by decide) (by decide) (hw _ bw382) (castXX (hw _ bw391)) hce hcv hcl ?_
  refine lv_astore (lv' := [(4, .ref q9), (0, .ref (a 0)), (1, .int p0), (2, .int p1), (3, .ref o)]) hx hb dL_takeDate_14 hl (Nat.le_of_ble_eq_true rfl) rfl (fun ls hl => ?_)
  refine lv_iconst (v := (1 : Int32)) hx hb dL_takeDate_16 qi_1 ?_
  exact we_h hx hb hr hk (P_old hP ho) hD hS1 (Nat.le_of_ble_eq_true rfl) (Nat.le_of_ble_eq_true rfl) dL_takeDate_17

set_option maxRecDepth 100000 in
set_option maxHeartbeats 4000000 in
theorem hG_takeDate (l : Launch) (hl9 : l.stackTraces = false) (G : GT) (a : Nat → Nat) (o : Nat) (n : Int64) (sv : Value) (S : SX) (p0 : Int32) (p1 : Int32) (h0 : vp_in p0 6) (h1 : vp_in p1 6) : HE l G yL_takeDate cL_takeDate 5 [(0, 11, 14, 25)] 10 0 0 [.ref (a 0), .int p0, .int p1, .ref o] (wH G a o n sv S) (wH G a o ((gX0_takeDate S p0 p1).1.toInt64) sv ((gX0_takeDate S p0 p1).2)) (0 : Int32) := by
  refine HE.ofW (own := RL) rfl pnN_RL (Nat.le_of_ble_eq_true rfl) ?_
  intro p e s m below meth c A C hr hk hT hN hE hP hD hA hAB hS ls hl
  have hx := C.1
  have hb := C.2.1
  have hown := C.2.2.2.1
  have hw := C.2.2.2.2
  have hl : lv_has ls 5 [(0, .ref (a 0)), (1, .int p0), (2, .int p1), (3, .ref o)] := hl
  have hPX : va_P (gD G) vwCl (wX G a S) s.heap := P_tail hP
  refine lv_aload_n hx hb dL_takeDate_0 rfl (lv_at hl 3 rfl) ?_
  refine lv_aload_n hx hb dL_takeDate_1 rfl (lv_at hl 0 rfl) ?_
  refine lv_iload_n hx hb dL_takeDate_2 rfl (lv_at hl 1 rfl) ?_
  refine lv_iload_n hx hb dL_takeDate_3 rfl (lv_at hl 2 rfl) ?_
  refine wcV1 (as := [.int p0, .int p1]) (rest := [.ref o]) (cl := RX0) C (c_X0_takeDate l G a S p0 p1 h0 h1) F_X0_takeDate rfl bw453 bw454 bw455 hE hP hD hS hA hAB (rv2 hE.K hPX (q0 := 0) rfl) hl.1 dL_takeDate_4 ⟨Nat.le_of_ble_eq_true rfl, Nat.le_of_ble_eq_true rfl⟩ rfl (Nat.le_of_ble_eq_true rfl) ⟨Nat.le_of_ble_eq_true rfl, Nat.le_of_ble_eq_true rfl⟩ (fun H locs hP hD hS => ?_)
  refine lv_i2l (v := (((gX0_takeDate S p0 p1).1).toInt64)) hx hb dL_takeDate_7 (by first | rfl | decide) ?_
  refine va_putN (D := gD G) (cl := vwCl) (tys := gT G) (ci := 3) (v := .long (((gX0_takeDate S p0 p1).1).toInt64)) (ty := .long) (C := RX1) (T := TX1) (N := 2) hx hb hw inB_X1 tyX1 tyX1_ok nmX1 hown hE.K hP hD hS 0 rfl rfl 0 (by decide) (va_Nw.use rfl hN.2.1) (fun _ h9 => h9) rfl (by decide +kernel) rfl rfl (Nat.le_of_ble_eq_true rfl) dL_takeDate_8 (fun H locs hP hD hS => ?_)
  refine lv_goto (tgt := 18) hx hb dL_takeDate_11 (by decide) ?_
  refine lv_iconst (v := (0 : Int32)) hx hb dL_takeDate_18 qi_0 ?_
  exact we_h hx hb hr hk hP hD hS (Nat.le_of_ble_eq_true rfl) (Nat.le_of_ble_eq_true rfl) dL_takeDate_19

set_option maxRecDepth 100000 in
set_option maxHeartbeats 4000000 in
theorem hI_takeTime (l : Launch) (hl9 : l.stackTraces = false) (G : GT) (a : Nat → Nat) (o : Nat) (n : Int64) (sv : Value) (S : SX) (p0 : Int32) (p1 : Int32) (hbad : ¬ (vp_in p0 6 ∧ vp_in p1 6)) : HE l G yL_takeTime cL_takeTime 5 [(0, 11, 14, 25)] 10 1 6 [.ref (a 0), .int p0, .int p1, .ref o] (wH G a o n sv S) (wH G a o n sv S) (1 : Int32) := by
  refine HE.ofW (own := RL) rfl pnN_RL (Nat.le_of_ble_eq_true rfl) ?_
  intro p e s m below meth c A C hr hk hT hN hE hP hD hA hAB hS ls hl
  have hx := C.1
  have hb := C.2.1
  have hown := C.2.2.2.1
  have hw := C.2.2.2.2
  have hl : lv_has ls 5 [(0, .ref (a 0)), (1, .int p0), (2, .int p1), (3, .ref o)] := hl
  have hPX : va_P (gD G) vwCl (wX G a S) s.heap := P_tail hP
  refine lv_aload_n hx hb dL_takeTime_0 rfl (lv_at hl 3 rfl) ?_
  refine lv_aload_n hx hb dL_takeTime_1 rfl (lv_at hl 0 rfl) ?_
  refine lv_iload_n hx hb dL_takeTime_2 rfl (lv_at hl 1 rfl) ?_
  refine lv_iload_n hx hb dL_takeTime_3 rfl (lv_at hl 2 rfl) ?_
  refine thV (as := [.int p0, .int p1]) (rest := [.ref o]) (cl := RX0) C (tI_X0_takeTime l hl9 G a p0 p1 hbad) F_X0_takeTime rfl bw460 bw461 bw462 hE hS hA (rv2 hE.K hPX (q0 := 0) rfl) hl.1 dL_takeTime_4 ⟨Nat.le_of_ble_eq_true rfl, Nat.le_of_ble_eq_true rfl⟩ rfl (Nat.le_of_ble_eq_true rfl) ⟨Nat.le_of_ble_eq_true rfl, Nat.le_of_ble_eq_true rfl⟩ (fun q9 ce H1 locs1 hz ho hS1 hce hcv hcl => ?_)
  refine vx_catch hown [] ⟨0, 11, 14, 25⟩ [] (hT.trans rfl) (fun z hz => nomatch hz) (by decide) (by decide) (hw _ bw382) (castXX (hw _ bw391)) hce hcv hcl ?_
  refine lv_astore (lv' := [(4, .ref q9), (0, .ref (a 0)), (1, .int p0), (2, .int p1), (3, .ref o)]) hx hb dL_takeTime_14 hl (Nat.le_of_ble_eq_true rfl) rfl (fun ls hl => ?_)
  refine lv_iconst (v := (1 : Int32)) hx hb dL_takeTime_16 qi_1 ?_
  exact we_h hx hb hr hk (P_old hP ho) hD hS1 (Nat.le_of_ble_eq_true rfl) (Nat.le_of_ble_eq_true rfl) dL_takeTime_17

set_option maxRecDepth 100000 in
set_option maxHeartbeats 4000000 in
theorem hG_takeTime (l : Launch) (hl9 : l.stackTraces = false) (G : GT) (a : Nat → Nat) (o : Nat) (n : Int64) (sv : Value) (S : SX) (p0 : Int32) (p1 : Int32) (h0 : vp_in p0 6) (h1 : vp_in p1 6) : HE l G yL_takeTime cL_takeTime 5 [(0, 11, 14, 25)] 10 0 0 [.ref (a 0), .int p0, .int p1, .ref o] (wH G a o n sv S) (wH G a o ((gX0_takeTime S p0 p1).1.toInt64) sv ((gX0_takeTime S p0 p1).2)) (0 : Int32) := by
  refine HE.ofW (own := RL) rfl pnN_RL (Nat.le_of_ble_eq_true rfl) ?_
  intro p e s m below meth c A C hr hk hT hN hE hP hD hA hAB hS ls hl
  have hx := C.1
  have hb := C.2.1
  have hown := C.2.2.2.1
  have hw := C.2.2.2.2
  have hl : lv_has ls 5 [(0, .ref (a 0)), (1, .int p0), (2, .int p1), (3, .ref o)] := hl
  have hPX : va_P (gD G) vwCl (wX G a S) s.heap := P_tail hP
  refine lv_aload_n hx hb dL_takeTime_0 rfl (lv_at hl 3 rfl) ?_
  refine lv_aload_n hx hb dL_takeTime_1 rfl (lv_at hl 0 rfl) ?_
  refine lv_iload_n hx hb dL_takeTime_2 rfl (lv_at hl 1 rfl) ?_
  refine lv_iload_n hx hb dL_takeTime_3 rfl (lv_at hl 2 rfl) ?_
  refine wcV1 (as := [.int p0, .int p1]) (rest := [.ref o]) (cl := RX0) C (c_X0_takeTime l G a S p0 p1 h0 h1) F_X0_takeTime rfl bw460 bw461 bw462 hE hP hD hS hA hAB (rv2 hE.K hPX (q0 := 0) rfl) hl.1 dL_takeTime_4 ⟨Nat.le_of_ble_eq_true rfl, Nat.le_of_ble_eq_true rfl⟩ rfl (Nat.le_of_ble_eq_true rfl) ⟨Nat.le_of_ble_eq_true rfl, Nat.le_of_ble_eq_true rfl⟩ (fun H locs hP hD hS => ?_)
  refine lv_i2l (v := (((gX0_takeTime S p0 p1).1).toInt64)) hx hb dL_takeTime_7 (by first | rfl | decide) ?_
  refine va_putN (D := gD G) (cl := vwCl) (tys := gT G) (ci := 3) (v := .long (((gX0_takeTime S p0 p1).1).toInt64)) (ty := .long) (C := RX1) (T := TX1) (N := 2) hx hb hw inB_X1 tyX1 tyX1_ok nmX1 hown hE.K hP hD hS 0 rfl rfl 0 (by decide) (va_Nw.use rfl hN.2.1) (fun _ h9 => h9) rfl (by decide +kernel) rfl rfl (Nat.le_of_ble_eq_true rfl) dL_takeTime_8 (fun H locs hP hD hS => ?_)
  refine lv_goto (tgt := 18) hx hb dL_takeTime_11 (by decide) ?_
  refine lv_iconst (v := (0 : Int32)) hx hb dL_takeTime_18 qi_0 ?_
  exact we_h hx hb hr hk hP hD hS (Nat.le_of_ble_eq_true rfl) (Nat.le_of_ble_eq_true rfl) dL_takeTime_19

set_option maxRecDepth 100000 in
set_option maxHeartbeats 4000000 in
theorem hI_compare (l : Launch) (hl9 : l.stackTraces = false) (G : GT) (a : Nat → Nat) (o : Nat) (n : Int64) (sv : Value) (S : SX) (p0 : Int32) (p1 : Int32) (hbad : ¬ (vp_in p0 6 ∧ vp_in p1 6)) : HE l G yL_compare cL_compare 5 [(0, 11, 14, 25)] 10 1 6 [.ref (a 0), .int p0, .int p1, .ref o] (wH G a o n sv S) (wH G a o n sv S) (1 : Int32) := by
  refine HE.ofW (own := RL) rfl pnN_RL (Nat.le_of_ble_eq_true rfl) ?_
  intro p e s m below meth c A C hr hk hT hN hE hP hD hA hAB hS ls hl
  have hx := C.1
  have hb := C.2.1
  have hown := C.2.2.2.1
  have hw := C.2.2.2.2
  have hl : lv_has ls 5 [(0, .ref (a 0)), (1, .int p0), (2, .int p1), (3, .ref o)] := hl
  have hPX : va_P (gD G) vwCl (wX G a S) s.heap := P_tail hP
  refine lv_aload_n hx hb dL_compare_0 rfl (lv_at hl 3 rfl) ?_
  refine lv_aload_n hx hb dL_compare_1 rfl (lv_at hl 0 rfl) ?_
  refine lv_iload_n hx hb dL_compare_2 rfl (lv_at hl 1 rfl) ?_
  refine lv_iload_n hx hb dL_compare_3 rfl (lv_at hl 2 rfl) ?_
  refine thV (as := [.int p0, .int p1]) (rest := [.ref o]) (cl := RX0) C (tI_X0_compare l hl9 G a p0 p1 hbad) F_X0_compare rfl bw1100 bw1101 bw1102 hE hS hA (rv2 hE.K hPX (q0 := 0) rfl) hl.1 dL_compare_4 ⟨Nat.le_of_ble_eq_true rfl, Nat.le_of_ble_eq_true rfl⟩ rfl (Nat.le_of_ble_eq_true rfl) ⟨Nat.le_of_ble_eq_true rfl, Nat.le_of_ble_eq_true rfl⟩ (fun q9 ce H1 locs1 hz ho hS1 hce hcv hcl => ?_)
  refine vx_catch hown [] ⟨0, 11, 14, 25⟩ [] (hT.trans rfl) (fun z hz => nomatch hz) (by decide) (by decide) (hw _ bw382) (castXX (hw _ bw391)) hce hcv hcl ?_
  refine lv_astore (lv' := [(4, .ref q9), (0, .ref (a 0)), (1, .int p0), (2, .int p1), (3, .ref o)]) hx hb dL_compare_14 hl (Nat.le_of_ble_eq_true rfl) rfl (fun ls hl => ?_)
  refine lv_iconst (v := (1 : Int32)) hx hb dL_compare_16 qi_1 ?_
  exact we_h hx hb hr hk (P_old hP ho) hD hS1 (Nat.le_of_ble_eq_true rfl) (Nat.le_of_ble_eq_true rfl) dL_compare_17

set_option maxRecDepth 100000 in
set_option maxHeartbeats 4000000 in
theorem hG_compare (l : Launch) (hl9 : l.stackTraces = false) (G : GT) (a : Nat → Nat) (o : Nat) (n : Int64) (sv : Value) (S : SX) (p0 : Int32) (p1 : Int32) (h0 : vp_in p0 6) (h1 : vp_in p1 6) : HE l G yL_compare cL_compare 5 [(0, 11, 14, 25)] 10 0 0 [.ref (a 0), .int p0, .int p1, .ref o] (wH G a o n sv S) (wH G a o ((fX0_compare S p0 p1).toInt64) sv S) (0 : Int32) := by
  refine HE.ofW (own := RL) rfl pnN_RL (Nat.le_of_ble_eq_true rfl) ?_
  intro p e s m below meth c A C hr hk hT hN hE hP hD hA hAB hS ls hl
  have hx := C.1
  have hb := C.2.1
  have hown := C.2.2.2.1
  have hw := C.2.2.2.2
  have hl : lv_has ls 5 [(0, .ref (a 0)), (1, .int p0), (2, .int p1), (3, .ref o)] := hl
  have hPX : va_P (gD G) vwCl (wX G a S) s.heap := P_tail hP
  refine lv_aload_n hx hb dL_compare_0 rfl (lv_at hl 3 rfl) ?_
  refine lv_aload_n hx hb dL_compare_1 rfl (lv_at hl 0 rfl) ?_
  refine lv_iload_n hx hb dL_compare_2 rfl (lv_at hl 1 rfl) ?_
  refine lv_iload_n hx hb dL_compare_3 rfl (lv_at hl 2 rfl) ?_
  refine rcVi (as := [.int p0, .int p1]) (rest := [.ref o]) (cl := RX0) C (c_X0_compare l G a S p0 p1 h0 h1) F_X0_compare rfl bw1100 bw1101 bw1102 hE hPX (rv2 hE.K hPX (q0 := 0) rfl) hl.1 dL_compare_4 ⟨Nat.le_of_ble_eq_true rfl, Nat.le_of_ble_eq_true rfl⟩ rfl (Nat.le_of_ble_eq_true rfl) ⟨Nat.le_of_ble_eq_true rfl, Nat.le_of_ble_eq_true rfl⟩ ?_
  refine lv_i2l (v := ((fX0_compare S p0 p1).toInt64)) hx hb dL_compare_7 (by first | rfl | decide) ?_
  refine va_putN (D := gD G) (cl := vwCl) (tys := gT G) (ci := 3) (v := .long ((fX0_compare S p0 p1).toInt64)) (ty := .long) (C := RX1) (T := TX1) (N := 2) hx hb hw inB_X1 tyX1 tyX1_ok nmX1 hown hE.K hP hD hS 0 rfl rfl 0 (by decide) (va_Nw.use rfl hN.2.1) (fun _ h9 => h9) rfl (by decide +kernel) rfl rfl (Nat.le_of_ble_eq_true rfl) dL_compare_8 (fun H locs hP hD hS => ?_)
  refine lv_goto (tgt := 18) hx hb dL_compare_11 (by decide) ?_
  refine lv_iconst (v := (0 : Int32)) hx hb dL_compare_18 qi_0 ?_
  exact we_h hx hb hr hk hP hD hS (Nat.le_of_ble_eq_true rfl) (Nat.le_of_ble_eq_true rfl) dL_compare_19

set_option maxRecDepth 100000 in
set_option maxHeartbeats 4000000 in
theorem hI_isSame (l : Launch) (hl9 : l.stackTraces = false) (G : GT) (a : Nat → Nat) (o : Nat) (n : Int64) (sv : Value) (S : SX) (p0 : Int32) (p1 : Int32) (hbad : ¬ (vp_in p0 6 ∧ vp_in p1 6)) : HE l G yL_isSame cL_isSame 5 [(0, 18, 21, 25)] 10 1 6 [.ref (a 0), .int p0, .int p1, .ref o] (wH G a o n sv S) (wH G a o n sv S) (1 : Int32) := by
  refine HE.ofW (own := RL) rfl pnN_RL (Nat.le_of_ble_eq_true rfl) ?_
  intro p e s m below meth c A C hr hk hT hN hE hP hD hA hAB hS ls hl
  have hx := C.1
  have hb := C.2.1
  have hown := C.2.2.2.1
  have hw := C.2.2.2.2
  have hl : lv_has ls 5 [(0, .ref (a 0)), (1, .int p0), (2, .int p1), (3, .ref o)] := hl
  have hPX : va_P (gD G) vwCl (wX G a S) s.heap := P_tail hP
  refine lv_aload_n hx hb dL_isSame_0 rfl (lv_at hl 3 rfl) ?_
  refine lv_aload_n hx hb dL_isSame_1 rfl (lv_at hl 0 rfl) ?_
  refine lv_iload_n hx hb dL_isSame_2 rfl (lv_at hl 1 rfl) ?_
  refine lv_iload_n hx hb dL_isSame_3 rfl (lv_at hl 2 rfl) ?_
  refine thV (as := [.int p0, .int p1]) (rest := [.ref o]) (cl := RX0) C (tI_X0_isSame l hl9 G a p0 p1 hbad) F_X0_isSame rfl bw1107 bw1108 bw1109 hE hS hA (rv2 hE.K hPX (q0 := 0) rfl) hl.1 dL_isSame_4 ⟨Nat.le_of_ble_eq_true rfl, Nat.le_of_ble_eq_true rfl⟩ rfl (Nat.le_of_ble_eq_true rfl) ⟨Nat.le_of_ble_eq_true rfl, Nat.le_of_ble_eq_true rfl⟩ (fun q9 ce H1 locs1 hz ho hS1 hce hcv hcl => ?_)
  refine vx_catch hown [] ⟨0, 18, 21, 25⟩ [] (hT.trans rfl) (fun z hz => nomatch hz) (by decide) (by decide) (hw _ bw382) (castXX (hw _ bw391)) hce hcv hcl ?_
  refine lv_astore (lv' := [(4, .ref q9), (0, .ref (a 0)), (1, .int p0), (2, .int p1), (3, .ref o)]) hx hb dL_isSame_21 hl (Nat.le_of_ble_eq_true rfl) rfl (fun ls hl => ?_)
  refine lv_iconst (v := (1 : Int32)) hx hb dL_isSame_23 qi_1 ?_
  exact we_h hx hb hr hk (P_old hP ho) hD hS1 (Nat.le_of_ble_eq_true rfl) (Nat.le_of_ble_eq_true rfl) dL_isSame_24

set_option maxRecDepth 100000 in
set_option maxHeartbeats 4000000 in
theorem hG_isSame (l : Launch) (hl9 : l.stackTraces = false) (G : GT) (a : Nat → Nat) (o : Nat) (n : Int64) (sv : Value) (S : SX) (p0 : Int32) (p1 : Int32) (h0 : vp_in p0 6) (h1 : vp_in p1 6) : HE l G yL_isSame cL_isSame 5 [(0, 18, 21, 25)] 10 0 0 [.ref (a 0), .int p0, .int p1, .ref o] (wH G a o n sv S) (wH G a o (fz9 (fX0_isSame S p0 p1)) sv S) (0 : Int32) := by
  refine HE.ofW (own := RL) rfl pnN_RL (Nat.le_of_ble_eq_true rfl) ?_
  intro p e s m below meth c A C hr hk hT hN hE hP hD hA hAB hS ls hl
  have hx := C.1
  have hb := C.2.1
  have hown := C.2.2.2.1
  have hw := C.2.2.2.2
  have hl : lv_has ls 5 [(0, .ref (a 0)), (1, .int p0), (2, .int p1), (3, .ref o)] := hl
  have hPX : va_P (gD G) vwCl (wX G a S) s.heap := P_tail hP
  refine lv_aload_n hx hb dL_isSame_0 rfl (lv_at hl 3 rfl) ?_
  refine lv_aload_n hx hb dL_isSame_1 rfl (lv_at hl 0 rfl) ?_
  refine lv_iload_n hx hb dL_isSame_2 rfl (lv_at hl 1 rfl) ?_
  refine lv_iload_n hx hb dL_isSame_3 rfl (lv_at hl 2 rfl) ?_
  refine rcVi (as := [.int p0, .int p1]) (rest := [.ref o]) (cl := RX0) C (c_X0_isSame l G a S p0 p1 h0 h1) F_X0_isSame rfl bw1107 bw1108 bw1109 hE hPX (rv2 hE.K hPX (q0 := 0) rfl) hl.1 dL_isSame_4 ⟨Nat.le_of_ble_eq_true rfl, Nat.le_of_ble_eq_true rfl⟩ rfl (Nat.le_of_ble_eq_true rfl) ⟨Nat.le_of_ble_eq_true rfl, Nat.le_of_ble_eq_true rfl⟩ ?_
  refine lv_if_eq (tgt := 14) hx hb dL_isSame_7 (by decide) (fun c_1 => ?_) (fun c_1 => ?_)
  · refine lv_lconst (v := (0 : Int64)) hx hb dL_isSame_14 ql_0 ?_
    refine va_putN (D := gD G) (cl := vwCl) (tys := gT G) (ci := 3) (v := .long (0 : Int64)) (ty := .long) (C := RX1) (T := TX1) (N := 2) hx hb hw inB_X1 tyX1 tyX1_ok nmX1 hown hE.K hP hD hS 0 rfl rfl 0 (by decide) (va_Nw.use rfl hN.2.1) (fun _ h9 => h9) rfl (by decide +kernel) rfl rfl (Nat.le_of_ble_eq_true rfl) dL_isSame_15 (fun H locs hP hD hS => ?_)
    refine lv_goto (tgt := 25) hx hb dL_isSame_18 (by decide) ?_
    refine lv_iconst (v := (0 : Int32)) hx hb dL_isSame_25 qi_0 ?_
    rw [show fz9 (fX0_isSame S p0 p1) = 0 from if_pos c_1]
    exact we_h hx hb hr hk hP hD hS (Nat.le_of_ble_eq_true rfl) (Nat.le_of_ble_eq_true rfl) dL_isSame_26
  · refine lv_lconst (v := (1 : Int64)) hx hb dL_isSame_10 ql_1 ?_
    refine lv_goto (tgt := 15) hx hb dL_isSame_11 (by decide) ?_
    refine va_putN (D := gD G) (cl := vwCl) (tys := gT G) (ci := 3) (v := .long (1 : Int64)) (ty := .long) (C := RX1) (T := TX1) (N := 2) hx hb hw inB_X1 tyX1 tyX1_ok nmX1 hown hE.K hP hD hS 0 rfl rfl 0 (by decide) (va_Nw.use rfl hN.2.1) (fun _ h9 => h9) rfl (by decide +kernel) rfl rfl (Nat.le_of_ble_eq_true rfl) dL_isSame_15 (fun H locs hP hD hS => ?_)
    refine lv_goto (tgt := 25) hx hb dL_isSame_18 (by decide) ?_
    refine lv_iconst (v := (0 : Int32)) hx hb dL_isSame_25 qi_0 ?_
    rw [show fz9 (fX0_isSame S p0 p1) = 1 from if_neg c_1]
    exact we_h hx hb hr hk hP hD hS (Nat.le_of_ble_eq_true rfl) (Nat.le_of_ble_eq_true rfl) dL_isSame_26

set_option maxRecDepth 100000 in
set_option maxHeartbeats 4000000 in
theorem hI_withYear (l : Launch) (hl9 : l.stackTraces = false) (G : GT) (a : Nat → Nat) (o : Nat) (n : Int64) (sv : Value) (S : SX) (p0 : Int32) (p1 : Int32) (hbad : ¬ (vp_in p0 6)) : HE l G yL_withYear cL_withYear 5 [(0, 11, 14, 25), (0, 11, 18, 19)] 10 1 6 [.ref (a 0), .int p0, .int p1, .ref o] (wH G a o n sv S) (wH G a o n sv S) (1 : Int32) := by
  refine HE.ofW (own := RL) rfl pnN_RL (Nat.le_of_ble_eq_true rfl) ?_
  intro p e s m below meth c A C hr hk hT hN hE hP hD hA hAB hS ls hl
  have hx := C.1
  have hb := C.2.1
  have hown := C.2.2.2.1
  have hw := C.2.2.2.2
  have hl : lv_has ls 5 [(0, .ref (a 0)), (1, .int p0), (2, .int p1), (3, .ref o)] := hl
  have hPX : va_P (gD G) vwCl (wX G a S) s.heap := P_tail hP
  refine lv_aload_n hx hb dL_withYear_0 rfl (lv_at hl 3 rfl) ?_
  refine lv_aload_n hx hb dL_withYear_1 rfl (lv_at hl 0 rfl) ?_
  refine lv_iload_n hx hb dL_withYear_2 rfl (lv_at hl 1 rfl) ?_
  refine lv_iload_n hx hb dL_withYear_3 rfl (lv_at hl 2 rfl) ?_
  refine thV (as := [.int p0, .int p1]) (rest := [.ref o]) (cl := RX0) C (tI_X0_withYear l hl9 G a p0 p1 hbad) F_X0_withYear rfl bw467 bw468 bw469 hE hS hA (rv2 hE.K hPX (q0 := 0) rfl) hl.1 dL_withYear_4 ⟨Nat.le_of_ble_eq_true rfl, Nat.le_of_ble_eq_true rfl⟩ rfl (Nat.le_of_ble_eq_true rfl) ⟨Nat.le_of_ble_eq_true rfl, Nat.le_of_ble_eq_true rfl⟩ (fun q9 ce H1 locs1 hz ho hS1 hce hcv hcl => ?_)
  refine vx_catch hown [] ⟨0, 11, 14, 25⟩ [⟨0, 11, 18, 19⟩] (hT.trans rfl) (fun z hz => nomatch hz) (by decide) (by decide) (hw _ bw382) (castXX (hw _ bw391)) hce hcv hcl ?_
  refine lv_astore (lv' := [(4, .ref q9), (0, .ref (a 0)), (1, .int p0), (2, .int p1), (3, .ref o)]) hx hb dL_withYear_14 hl (Nat.le_of_ble_eq_true rfl) rfl (fun ls hl => ?_)
  refine lv_iconst (v := (1 : Int32)) hx hb dL_withYear_16 qi_1 ?_
  exact we_h hx hb hr hk (P_old hP ho) hD hS1 (Nat.le_of_ble_eq_true rfl) (Nat.le_of_ble_eq_true rfl) dL_withYear_17

set_option maxRecDepth 100000 in
set_option maxHeartbeats 4000000 in
theorem hA_withYear (l : Launch) (hl9 : l.stackTraces = false) (G : GT) (a : Nat → Nat) (o : Nat) (n : Int64) (sv : Value) (S : SX) (p0 : Int32) (p1 : Int32) (h0 : vp_in p0 6) (hbad : ¬ ((¬ p1 < (-9999 : Int32) ∧ p1 ≤ (9999 : Int32)))) : HE l G yL_withYear cL_withYear 5 [(0, 11, 14, 25), (0, 11, 18, 19)] 10 1 6 [.ref (a 0), .int p0, .int p1, .ref o] (wH G a o n sv S) (wH G a o n sv S) (2 : Int32) := by
  refine HE.ofW (own := RL) rfl pnN_RL (Nat.le_of_ble_eq_true rfl) ?_
  intro p e s m below meth c A C hr hk hT hN hE hP hD hA hAB hS ls hl
  have hx := C.1
  have hb := C.2.1
  have hown := C.2.2.2.1
  have hw := C.2.2.2.2
  have hl : lv_has ls 5 [(0, .ref (a 0)), (1, .int p0), (2, .int p1), (3, .ref o)] := hl
  have hPX : va_P (gD G) vwCl (wX G a S) s.heap := P_tail hP
  refine lv_aload_n hx hb dL_withYear_0 rfl (lv_at hl 3 rfl) ?_
  refine lv_aload_n hx hb dL_withYear_1 rfl (lv_at hl 0 rfl) ?_
  refine lv_iload_n hx hb dL_withYear_2 rfl (lv_at hl 1 rfl) ?_
  refine lv_iload_n hx hb dL_withYear_3 rfl (lv_at hl 2 rfl) ?_
  refine thV (as := [.int p0, .int p1]) (rest := [.ref o]) (cl := RX0) C (tA_X0_withYear l hl9 G a p0 p1 h0 hbad) F_X0_withYear rfl bw467 bw468 bw469 hE hS hA (rv2 hE.K hPX (q0 := 0) rfl) hl.1 dL_withYear_4 ⟨Nat.le_of_ble_eq_true rfl, Nat.le_of_ble_eq_true rfl⟩ rfl (Nat.le_of_ble_eq_true rfl) ⟨Nat.le_of_ble_eq_true rfl, Nat.le_of_ble_eq_true rfl⟩ (fun q9 ce H1 locs1 hz ho hS1 hce hcv hcl => ?_)
  refine vx_catch hown [⟨0, 11, 14, 25⟩] ⟨0, 11, 18, 19⟩ [] (hT.trans rfl) (fun z hz => by cases List.mem_singleton.mp hz; exact Or.inr ⟨by decide, eI, hw _ bw382, hN.1⟩) (by decide) (by decide) (hw _ bw303) (castXX (hw _ bw312)) hce hcv hcl ?_
  refine lv_astore (lv' := [(4, .ref q9), (0, .ref (a 0)), (1, .int p0), (2, .int p1), (3, .ref o)]) hx hb dL_withYear_18 hl (Nat.le_of_ble_eq_true rfl) rfl (fun ls hl => ?_)
  refine lv_iconst (v := (2 : Int32)) hx hb dL_withYear_20 qi_2 ?_
  exact we_h hx hb hr hk (P_old hP ho) hD hS1 (Nat.le_of_ble_eq_true rfl) (Nat.le_of_ble_eq_true rfl) dL_withYear_21

set_option maxRecDepth 100000 in
set_option maxHeartbeats 4000000 in
theorem hG_withYear (l : Launch) (hl9 : l.stackTraces = false) (G : GT) (a : Nat → Nat) (o : Nat) (n : Int64) (sv : Value) (S : SX) (p0 : Int32) (p1 : Int32) (h0 : vp_in p0 6) (r1 : ¬ p1 < (-9999 : Int32)) (q1 : p1 ≤ (9999 : Int32)) : HE l G yL_withYear cL_withYear 5 [(0, 11, 14, 25), (0, 11, 18, 19)] 10 0 0 [.ref (a 0), .int p0, .int p1, .ref o] (wH G a o n sv S) (wH G a o ((gX0_withYear S p0 p1).1.toInt64) sv ((gX0_withYear S p0 p1).2)) (0 : Int32) := by
  refine HE.ofW (own := RL) rfl pnN_RL (Nat.le_of_ble_eq_true rfl) ?_
  intro p e s m below meth c A C hr hk hT hN hE hP hD hA hAB hS ls hl
  have hx := C.1
  have hb := C.2.1
  have hown := C.2.2.2.1
  have hw := C.2.2.2.2
  have hl : lv_has ls 5 [(0, .ref (a 0)), (1, .int p0), (2, .int p1), (3, .ref o)] := hl
  have hPX : va_P (gD G) vwCl (wX G a S) s.heap := P_tail hP
  refine lv_aload_n hx hb dL_withYear_0 rfl (lv_at hl 3 rfl) ?_
  refine lv_aload_n hx hb dL_withYear_1 rfl (lv_at hl 0 rfl) ?_
  refine lv_iload_n hx hb dL_withYear_2 rfl (lv_at hl 1 rfl) ?_
  refine lv_iload_n hx hb dL_withYear_3 rfl (lv_at hl 2 rfl) ?_
  refine wcV1 (as := [.int p0, .int p1]) (rest := [.ref o]) (cl := RX0) C (c_X0_withYear l G a S p0 p1 h0 r1 q1) F_X0_withYear rfl bw467 bw468 bw469 hE hP hD hS hA hAB (rv2 hE.K hPX (q0 := 0) rfl) hl.1 dL_withYear_4 ⟨Nat.le_of_ble_eq_true rfl, Nat.le_of_ble_eq_true rfl⟩ rfl (Nat.le_of_ble_eq_true rfl) ⟨Nat.le_of_ble_eq_true rfl, Nat.le_of_ble_eq_true rfl⟩ (fun H locs hP hD hS => ?_)
  refine lv_i2l (v := (((gX0_withYear S p0 p1).1).toInt64)) hx hb dL_withYear_7 (by first | rfl | decide) ?_
  refine va_putN (D := gD G) (cl := vwCl) (tys := gT G) (ci := 3) (v := .long (((gX0_withYear S p0 p1).1).toInt64)) (ty := .long) (C := RX1) (T := TX1) (N := 2) hx hb hw inB_X1 tyX1 tyX1_ok nmX1 hown hE.K hP hD hS 0 rfl rfl 0 (by decide) (va_Nw.use rfl hN.2.1) (fun _ h9 => h9) rfl (by decide +kernel) rfl rfl (Nat.le_of_ble_eq_true rfl) dL_withYear_8 (fun H locs hP hD hS => ?_)
  refine lv_goto (tgt := 22) hx hb dL_withYear_11 (by decide) ?_
  refine lv_iconst (v := (0 : Int32)) hx hb dL_withYear_22 qi_0 ?_
  exact we_h hx hb hr hk hP hD hS (Nat.le_of_ble_eq_true rfl) (Nat.le_of_ble_eq_true rfl) dL_withYear_23

set_option maxRecDepth 100000 in
set_option maxHeartbeats 4000000 in
theorem hI_withMonth (l : Launch) (hl9 : l.stackTraces = false) (G : GT) (a : Nat → Nat) (o : Nat) (n : Int64) (sv : Value) (S : SX) (p0 : Int32) (p1 : Int32) (hbad : ¬ (vp_in p0 6)) : HE l G yL_withMonth cL_withMonth 5 [(0, 11, 14, 25), (0, 11, 18, 19)] 10 1 6 [.ref (a 0), .int p0, .int p1, .ref o] (wH G a o n sv S) (wH G a o n sv S) (1 : Int32) := by
  refine HE.ofW (own := RL) rfl pnN_RL (Nat.le_of_ble_eq_true rfl) ?_
  intro p e s m below meth c A C hr hk hT hN hE hP hD hA hAB hS ls hl
  have hx := C.1
  have hb := C.2.1
  have hown := C.2.2.2.1
  have hw := C.2.2.2.2
  have hl : lv_has ls 5 [(0, .ref (a 0)), (1, .int p0), (2, .int p1), (3, .ref o)] := hl
  have hPX : va_P (gD G) vwCl (wX G a S) s.heap := P_tail hP
  refine lv_aload_n hx hb dL_withMonth_0 rfl (lv_at hl 3 rfl) ?_
  refine lv_aload_n hx hb dL_withMonth_1 rfl (lv_at hl 0 rfl) ?_
  refine lv_iload_n hx hb dL_withMonth_2 rfl (lv_at hl 1 rfl) ?_
  refine lv_iload_n hx hb dL_withMonth_3 rfl (lv_at hl 2 rfl) ?_
  refine thV (as := [.int p0, .int p1]) (rest := [.ref o]) (cl := RX0) C (tI_X0_withMonth l hl9 G a p0 p1 hbad) F_X0_withMonth rfl bw478 bw479 bw480 hE hS hA (rv2 hE.K hPX (q0 := 0) rfl) hl.1 dL_withMonth_4 ⟨Nat.le_of_ble_eq_true rfl, Nat.le_of_ble_eq_true rfl⟩ rfl (Nat.le_of_ble_eq_true rfl) ⟨Nat.le_of_ble_eq_true rfl, Nat.le_of_ble_eq_true rfl⟩ (fun q9 ce H1 locs1 hz ho hS1 hce hcv hcl => ?_)
  refine vx_catch hown [] ⟨0, 11, 14, 25⟩ [⟨0, 11, 18, 19⟩] (hT.trans rfl) (fun z hz => nomatch hz) (by decide) (by decide) (hw _ bw382) (castXX (hw _ bw391)) hce hcv hcl ?_
  refine lv_astore (lv' := [(4, .ref q9), (0, .ref (a 0)), (1, .int p0), (2, .int p1), (3, .ref o)]) hx hb dL_withMonth_14 hl (Nat.le_of_ble_eq_true rfl) rfl (fun ls hl => ?_)
  refine lv_iconst (v := (1 : Int32)) hx hb dL_withMonth_16 qi_1 ?_
  exact we_h hx hb hr hk (P_old hP ho) hD hS1 (Nat.le_of_ble_eq_true rfl) (Nat.le_of_ble_eq_true rfl) dL_withMonth_17

set_option maxRecDepth 100000 in
set_option maxHeartbeats 4000000 in
theorem hA_withMonth (l : Launch) (hl9 : l.stackTraces = false) (G : GT) (a : Nat → Nat) (o : Nat) (n : Int64) (sv : Value) (S : SX) (p0 : Int32) (p1 : Int32) (h0 : vp_in p0 6) (hbad : ¬ ((¬ p1 < (1 : Int32) ∧ p1 ≤ (12 : Int32)))) : HE l G yL_withMonth cL_withMonth 5 [(0, 11, 14, 25), (0, 11, 18, 19)] 10 1 6 [.ref (a 0), .int p0, .int p1, .ref o] (wH G a o n sv S) (wH G a o n sv S) (2 : Int32) := by
  refine HE.ofW (own := RL) rfl pnN_RL (Nat.le_of_ble_eq_true rfl) ?_
  intro p e s m below meth c A C hr hk hT hN hE hP hD hA hAB hS ls hl
  have hx := C.1
  have hb := C.2.1
  have hown := C.2.2.2.1
  have hw := C.2.2.2.2
  have hl : lv_has ls 5 [(0, .ref (a 0)), (1, .int p0), (2, .int p1), (3, .ref o)] := hl
  have hPX : va_P (gD G) vwCl (wX G a S) s.heap := P_tail hP
  refine lv_aload_n hx hb dL_withMonth_0 rfl (lv_at hl 3 rfl) ?_
  refine lv_aload_n hx hb dL_withMonth_1 rfl (lv_at hl 0 rfl) ?_
  refine lv_iload_n hx hb dL_withMonth_2 rfl (lv_at hl 1 rfl) ?_
  refine lv_iload_n hx hb dL_withMonth_3 rfl (lv_at hl 2 rfl) ?_
  refine thV (as := [.int p0, .int p1]) (rest := [.ref o]) (cl := RX0) C (tA_X0_withMonth l hl9 G a p0 p1 h0 hbad) F_X0_withMonth rfl bw478 bw479 bw480 hE hS hA (rv2 hE.K hPX (q0 := 0) rfl) hl.1 dL_withMonth_4 ⟨Nat.le_of_ble_eq_true rfl, Nat.le_of_ble_eq_true rfl⟩ rfl (Nat.le_of_ble_eq_true rfl) ⟨Nat.le_of_ble_eq_true rfl, Nat.le_of_ble_eq_true rfl⟩ (fun q9 ce H1 locs1 hz ho hS1 hce hcv hcl => ?_)
  refine vx_catch hown [⟨0, 11, 14, 25⟩] ⟨0, 11, 18, 19⟩ [] (hT.trans rfl) (fun z hz => by cases List.mem_singleton.mp hz; exact Or.inr ⟨by decide, eI, hw _ bw382, hN.1⟩) (by decide) (by decide) (hw _ bw303) (castXX (hw _ bw312)) hce hcv hcl ?_
  refine lv_astore (lv' := [(4, .ref q9), (0, .ref (a 0)), (1, .int p0), (2, .int p1), (3, .ref o)]) hx hb dL_withMonth_18 hl (Nat.le_of_ble_eq_true rfl) rfl (fun ls hl => ?_)
  refine lv_iconst (v := (2 : Int32)) hx hb dL_withMonth_20 qi_2 ?_
  exact we_h hx hb hr hk (P_old hP ho) hD hS1 (Nat.le_of_ble_eq_true rfl) (Nat.le_of_ble_eq_true rfl) dL_withMonth_21

set_option maxRecDepth 100000 in
set_option maxHeartbeats 4000000 in
theorem hG_withMonth (l : Launch) (hl9 : l.stackTraces = false) (G : GT) (a : Nat → Nat) (o : Nat) (n : Int64) (sv : Value) (S : SX) (p0 : Int32) (p1 : Int32) (h0 : vp_in p0 6) (r1 : ¬ p1 < (1 : Int32)) (q1 : p1 ≤ (12 : Int32)) : HE l G yL_withMonth cL_withMonth 5 [(0, 11, 14, 25), (0, 11, 18, 19)] 10 0 0 [.ref (a 0), .int p0, .int p1, .ref o] (wH G a o n sv S) (wH G a o ((gX0_withMonth S p0 p1).1.toInt64) sv ((gX0_withMonth S p0 p1).2)) (0 : Int32) := by
  refine HE.ofW (own := RL) rfl pnN_RL (Nat.le_of_ble_eq_true rfl) ?_
  intro p e s m below meth c A C hr hk hT hN hE hP hD hA hAB hS ls hl
  have hx := C.1
  have hb := C.2.1
  have hown := C.2.2.2.1
  have hw := C.2.2.2.2
  have hl : lv_has ls 5 [(0, .ref (a 0)), (1, .int p0), (2, .int p1), (3, .ref o)] := hl
  have hPX : va_P (gD G) vwCl (wX G a S) s.heap := P_tail hP
  refine lv_aload_n hx hb dL_withMonth_0 rfl (lv_at hl 3 rfl) ?_
  refine lv_aload_n hx hb dL_withMonth_1 rfl (lv_at hl 0 rfl) ?_
  refine lv_iload_n hx hb dL_withMonth_2 rfl (lv_at hl 1 rfl) ?_
  refine lv_iload_n hx hb dL_withMonth_3 rfl (lv_at hl 2 rfl) ?_
  refine wcV1 (as := [.int p0, .int p1]) (rest := [.ref o]) (cl := RX0) C (c_X0_withMonth l G a S p0 p1 h0 r1 q1) F_X0_withMonth rfl bw478 bw479 bw480 hE hP hD hS hA hAB (rv2 hE.K hPX (q0 := 0) rfl) hl.1 dL_withMonth_4 ⟨Nat.le_of_ble_eq_true rfl, Nat.le_of_ble_eq_true rfl⟩ rfl (Nat.le_of_ble_eq_true rfl) ⟨Nat.le_of_ble_eq_true rfl, Nat.le_of_ble_eq_true rfl⟩ (fun H locs hP hD hS => ?_)
  refine lv_i2l (v := (((gX0_withMonth S p0 p1).1).toInt64)) hx hb dL_withMonth_7 (by first | rfl | decide) ?_
  refine va_putN (D := gD G) (cl := vwCl) (tys := gT G) (ci := 3) (v := .long (((gX0_withMonth S p0 p1).1).toInt64)) (ty := .long) (C := RX1) (T := TX1) (N := 2) hx hb hw inB_X1 tyX1 tyX1_ok nmX1 hown hE.K hP hD hS 0 rfl rfl 0 (by decide) (va_Nw.use rfl hN.2.1) (fun _ h9 => h9) rfl (by decide +kernel) rfl rfl (Nat.le_of_ble_eq_true rfl) dL_withMonth_8 (fun H locs hP hD hS => ?_)
  refine lv_goto (tgt := 22) hx hb dL_withMonth_11 (by decide) ?_
  refine lv_iconst (v := (0 : Int32)) hx hb dL_withMonth_22 qi_0 ?_
  exact we_h hx hb hr hk hP hD hS (Nat.le_of_ble_eq_true rfl) (Nat.le_of_ble_eq_true rfl) dL_withMonth_23

set_option maxRecDepth 100000 in
set_option maxHeartbeats 4000000 in
theorem hI_withDayOfMonth (l : Launch) (hl9 : l.stackTraces = false) (G : GT) (a : Nat → Nat) (o : Nat) (n : Int64) (sv : Value) (S : SX) (p0 : Int32) (p1 : Int32) (hbad : ¬ (vp_in p0 6)) : HE l G yL_withDayOfMonth cL_withDayOfMonth 5 [(0, 11, 14, 25), (0, 11, 18, 19)] 10 1 6 [.ref (a 0), .int p0, .int p1, .ref o] (wH G a o n sv S) (wH G a o n sv S) (1 : Int32) := by
  refine HE.ofW (own := RL) rfl pnN_RL (Nat.le_of_ble_eq_true rfl) ?_
  intro p e s m below meth c A C hr hk hT hN hE hP hD hA hAB hS ls hl
  have hx := C.1
  have hb := C.2.1
  have hown := C.2.2.2.1
  have hw := C.2.2.2.2
  have hl : lv_has ls 5 [(0, .ref (a 0)), (1, .int p0), (2, .int p1), (3, .ref o)] := hl
  have hPX : va_P (gD G) vwCl (wX G a S) s.heap := P_tail hP
  refine lv_aload_n hx hb dL_withDayOfMonth_0 rfl (lv_at hl 3 rfl) ?_
  refine lv_aload_n hx hb dL_withDayOfMonth_1 rfl (lv_at hl 0 rfl) ?_
  refine lv_iload_n hx hb dL_withDayOfMonth_2 rfl (lv_at hl 1 rfl) ?_
  refine lv_iload_n hx hb dL_withDayOfMonth_3 rfl (lv_at hl 2 rfl) ?_
  refine thV (as := [.int p0, .int p1]) (rest := [.ref o]) (cl := RX0) C (tI_X0_withDayOfMonth l hl9 G a p0 p1 hbad) F_X0_withDayOfMonth rfl bw485 bw486 bw487 hE hS hA (rv2 hE.K hPX (q0 := 0) rfl) hl.1 dL_withDayOfMonth_4 ⟨Nat.le_of_ble_eq_true rfl, Nat.le_of_ble_eq_true rfl⟩ rfl (Nat.le_of_ble_eq_true rfl) ⟨Nat.le_of_ble_eq_true rfl, Nat.le_of_ble_eq_true rfl⟩ (fun q9 ce H1 locs1 hz ho hS1 hce hcv hcl => ?_)
  refine vx_catch hown [] ⟨0, 11, 14, 25⟩ [⟨0, 11, 18, 19⟩] (hT.trans rfl) (fun z hz => nomatch hz) (by decide) (by decide) (hw _ bw382) (castXX (hw _ bw391)) hce hcv hcl ?_
  refine lv_astore (lv' := [(4, .ref q9), (0, .ref (a 0)), (1, .int p0), (2, .int p1), (3, .ref o)]) hx hb dL_withDayOfMonth_14 hl (Nat.le_of_ble_eq_true rfl) rfl (fun ls hl => ?_)
  refine lv_iconst (v := (1 : Int32)) hx hb dL_withDayOfMonth_16 qi_1 ?_
  exact we_h hx hb hr hk (P_old hP ho) hD hS1 (Nat.le_of_ble_eq_true rfl) (Nat.le_of_ble_eq_true rfl) dL_withDayOfMonth_17

set_option maxRecDepth 100000 in
set_option maxHeartbeats 4000000 in
theorem hA_withDayOfMonth (l : Launch) (hl9 : l.stackTraces = false) (G : GT) (a : Nat → Nat) (o : Nat) (n : Int64) (sv : Value) (S : SX) (p0 : Int32) (p1 : Int32) (h0 : vp_in p0 6) (hbad : ¬ ((¬ p1 < (1 : Int32) ∧ p1 ≤ (31 : Int32)))) : HE l G yL_withDayOfMonth cL_withDayOfMonth 5 [(0, 11, 14, 25), (0, 11, 18, 19)] 10 1 6 [.ref (a 0), .int p0, .int p1, .ref o] (wH G a o n sv S) (wH G a o n sv S) (2 : Int32) := by
  refine HE.ofW (own := RL) rfl pnN_RL (Nat.le_of_ble_eq_true rfl) ?_
  intro p e s m below meth c A C hr hk hT hN hE hP hD hA hAB hS ls hl
  have hx := C.1
  have hb := C.2.1
  have hown := C.2.2.2.1
  have hw := C.2.2.2.2
  have hl : lv_has ls 5 [(0, .ref (a 0)), (1, .int p0), (2, .int p1), (3, .ref o)] := hl
  have hPX : va_P (gD G) vwCl (wX G a S) s.heap := P_tail hP
  refine lv_aload_n hx hb dL_withDayOfMonth_0 rfl (lv_at hl 3 rfl) ?_
  refine lv_aload_n hx hb dL_withDayOfMonth_1 rfl (lv_at hl 0 rfl) ?_
  refine lv_iload_n hx hb dL_withDayOfMonth_2 rfl (lv_at hl 1 rfl) ?_
  refine lv_iload_n hx hb dL_withDayOfMonth_3 rfl (lv_at hl 2 rfl) ?_
  refine thV (as := [.int p0, .int p1]) (rest := [.ref o]) (cl := RX0) C (tA_X0_withDayOfMonth l hl9 G a p0 p1 h0 hbad) F_X0_withDayOfMonth rfl bw485 bw486 bw487 hE hS hA (rv2 hE.K hPX (q0 := 0) rfl) hl.1 dL_withDayOfMonth_4 ⟨Nat.le_of_ble_eq_true rfl, Nat.le_of_ble_eq_true rfl⟩ rfl (Nat.le_of_ble_eq_true rfl) ⟨Nat.le_of_ble_eq_true rfl, Nat.le_of_ble_eq_true rfl⟩ (fun q9 ce H1 locs1 hz ho hS1 hce hcv hcl => ?_)
  refine vx_catch hown [⟨0, 11, 14, 25⟩] ⟨0, 11, 18, 19⟩ [] (hT.trans rfl) (fun z hz => by cases List.mem_singleton.mp hz; exact Or.inr ⟨by decide, eI, hw _ bw382, hN.1⟩) (by decide) (by decide) (hw _ bw303) (castXX (hw _ bw312)) hce hcv hcl ?_
  refine lv_astore (lv' := [(4, .ref q9), (0, .ref (a 0)), (1, .int p0), (2, .int p1), (3, .ref o)]) hx hb dL_withDayOfMonth_18 hl (Nat.le_of_ble_eq_true rfl) rfl (fun ls hl => ?_)
  refine lv_iconst (v := (2 : Int32)) hx hb dL_withDayOfMonth_20 qi_2 ?_
  exact we_h hx hb hr hk (P_old hP ho) hD hS1 (Nat.le_of_ble_eq_true rfl) (Nat.le_of_ble_eq_true rfl) dL_withDayOfMonth_21

set_option maxRecDepth 100000 in
set_option maxHeartbeats 4000000 in
theorem hG_withDayOfMonth (l : Launch) (hl9 : l.stackTraces = false) (G : GT) (a : Nat → Nat) (o : Nat) (n : Int64) (sv : Value) (S : SX) (p0 : Int32) (p1 : Int32) (h0 : vp_in p0 6) (r1 : ¬ p1 < (1 : Int32)) (q1 : p1 ≤ (31 : Int32)) : HE l G yL_withDayOfMonth cL_withDayOfMonth 5 [(0, 11, 14, 25), (0, 11, 18, 19)] 10 0 0 [.ref (a 0), .int p0, .int p1, .ref o] (wH G a o n sv S) (wH G a o ((gX0_withDayOfMonth S p0 p1).1.toInt64) sv ((gX0_withDayOfMonth S p0 p1).2)) (0 : Int32) := by
  refine HE.ofW (own := RL) rfl pnN_RL (Nat.le_of_ble_eq_true rfl) ?_
  intro p e s m below meth c A C hr hk hT hN hE hP hD hA hAB hS ls hl
  have hx := C.1
  have hb := C.2.1
  have hown := C.2.2.2.1
  have hw := C.2.2.2.2
  have hl : lv_has ls 5 [(0, .ref (a 0)), (1, .int p0), (2, .int p1), (3, .ref o)] := hl
  have hPX : va_P (gD G) vwCl (wX G a S) s.heap := P_tail hP
  refine lv_aload_n hx hb dL_withDayOfMonth_0 rfl (lv_at hl 3 rfl) ?_
  refine lv_aload_n hx hb dL_withDayOfMonth_1 rfl (lv_at hl 0 rfl) ?_
  refine lv_iload_n hx hb dL_withDayOfMonth_2 rfl (lv_at hl 1 rfl) ?_
  refine lv_iload_n hx hb dL_withDayOfMonth_3 rfl (lv_at hl 2 rfl) ?_
  refine wcV1 (as := [.int p0, .int p1]) (rest := [.ref o]) (cl := RX0) C (c_X0_withDayOfMonth l G a S p0 p1 h0 r1 q1) F_X0_withDayOfMonth rfl bw485 bw486 bw487 hE hP hD hS hA hAB (rv2 hE.K hPX (q0 := 0) rfl) hl.1 dL_withDayOfMonth_4 ⟨Nat.le_of_ble_eq_true rfl, Nat.le_of_ble_eq_true rfl⟩ rfl (Nat.le_of_ble_eq_true rfl) ⟨Nat.le_of_ble_eq_true rfl, Nat.le_of_ble_eq_true rfl⟩ (fun H locs hP hD hS => ?_)
  refine lv_i2l (v := (((gX0_withDayOfMonth S p0 p1).1).toInt64)) hx hb dL_withDayOfMonth_7 (by first | rfl | decide) ?_
  refine va_putN (D := gD G) (cl := vwCl) (tys := gT G) (ci := 3) (v := .long (((gX0_withDayOfMonth S p0 p1).1).toInt64)) (ty := .long) (C := RX1) (T := TX1) (N := 2) hx hb hw inB_X1 tyX1 tyX1_ok nmX1 hown hE.K hP hD hS 0 rfl rfl 0 (by decide) (va_Nw.use rfl hN.2.1) (fun _ h9 => h9) rfl (by decide +kernel) rfl rfl (Nat.le_of_ble_eq_true rfl) dL_withDayOfMonth_8 (fun H locs hP hD hS => ?_)
  refine lv_goto (tgt := 22) hx hb dL_withDayOfMonth_11 (by decide) ?_
  refine lv_iconst (v := (0 : Int32)) hx hb dL_withDayOfMonth_22 qi_0 ?_
  exact we_h hx hb hr hk hP hD hS (Nat.le_of_ble_eq_true rfl) (Nat.le_of_ble_eq_true rfl) dL_withDayOfMonth_23

set_option maxRecDepth 100000 in
set_option maxHeartbeats 4000000 in
theorem hI_withDayOfYear (l : Launch) (hl9 : l.stackTraces = false) (G : GT) (a : Nat → Nat) (o : Nat) (n : Int64) (sv : Value) (S : SX) (p0 : Int32) (p1 : Int32) (hbad : ¬ (vp_in p0 6)) : HE l G yL_withDayOfYear cL_withDayOfYear 5 [(0, 11, 14, 25), (0, 11, 18, 19)] 10 1 6 [.ref (a 0), .int p0, .int p1, .ref o] (wH G a o n sv S) (wH G a o n sv S) (1 : Int32) := by
  refine HE.ofW (own := RL) rfl pnN_RL (Nat.le_of_ble_eq_true rfl) ?_
  intro p e s m below meth c A C hr hk hT hN hE hP hD hA hAB hS ls hl
  have hx := C.1
  have hb := C.2.1
  have hown := C.2.2.2.1
  have hw := C.2.2.2.2
  have hl : lv_has ls 5 [(0, .ref (a 0)), (1, .int p0), (2, .int p1), (3, .ref o)] := hl
  have hPX : va_P (gD G) vwCl (wX G a S) s.heap := P_tail hP
  refine lv_aload_n hx hb dL_withDayOfYear_0 rfl (lv_at hl 3 rfl) ?_
  refine lv_aload_n hx hb dL_withDayOfYear_1 rfl (lv_at hl 0 rfl) ?_
  refine lv_iload_n hx hb dL_withDayOfYear_2 rfl (lv_at hl 1 rfl) ?_
  refine lv_iload_n hx hb dL_withDayOfYear_3 rfl (lv_at hl 2 rfl) ?_
  refine thV (as := [.int p0, .int p1]) (rest := [.ref o]) (cl := RX0) C (tI_X0_withDayOfYear l hl9 G a p0 p1 hbad) F_X0_withDayOfYear rfl bw492 bw493 bw494 hE hS hA (rv2 hE.K hPX (q0 := 0) rfl) hl.1 dL_withDayOfYear_4 ⟨Nat.le_of_ble_eq_true rfl, Nat.le_of_ble_eq_true rfl⟩ rfl (Nat.le_of_ble_eq_true rfl) ⟨Nat.le_of_ble_eq_true rfl, Nat.le_of_ble_eq_true rfl⟩ (fun q9 ce H1 locs1 hz ho hS1 hce hcv hcl => ?_)
  refine vx_catch hown [] ⟨0, 11, 14, 25⟩ [⟨0, 11, 18, 19⟩] (hT.trans rfl) (fun z hz => nomatch hz) (by decide) (by decide) (hw _ bw382) (castXX (hw _ bw391)) hce hcv hcl ?_
  refine lv_astore (lv' := [(4, .ref q9), (0, .ref (a 0)), (1, .int p0), (2, .int p1), (3, .ref o)]) hx hb dL_withDayOfYear_14 hl (Nat.le_of_ble_eq_true rfl) rfl (fun ls hl => ?_)
  refine lv_iconst (v := (1 : Int32)) hx hb dL_withDayOfYear_16 qi_1 ?_
  exact we_h hx hb hr hk (P_old hP ho) hD hS1 (Nat.le_of_ble_eq_true rfl) (Nat.le_of_ble_eq_true rfl) dL_withDayOfYear_17

set_option maxRecDepth 100000 in
set_option maxHeartbeats 4000000 in
theorem hA_withDayOfYear (l : Launch) (hl9 : l.stackTraces = false) (G : GT) (a : Nat → Nat) (o : Nat) (n : Int64) (sv : Value) (S : SX) (p0 : Int32) (p1 : Int32) (h0 : vp_in p0 6) (hbad : ¬ ((¬ p1 < (1 : Int32) ∧ p1 ≤ (366 : Int32)))) : HE l G yL_withDayOfYear cL_withDayOfYear 5 [(0, 11, 14, 25), (0, 11, 18, 19)] 10 1 6 [.ref (a 0), .int p0, .int p1, .ref o] (wH G a o n sv S) (wH G a o n sv S) (2 : Int32) := by
  refine HE.ofW (own := RL) rfl pnN_RL (Nat.le_of_ble_eq_true rfl) ?_
  intro p e s m below meth c A C hr hk hT hN hE hP hD hA hAB hS ls hl
  have hx := C.1
  have hb := C.2.1
  have hown := C.2.2.2.1
  have hw := C.2.2.2.2
  have hl : lv_has ls 5 [(0, .ref (a 0)), (1, .int p0), (2, .int p1), (3, .ref o)] := hl
  have hPX : va_P (gD G) vwCl (wX G a S) s.heap := P_tail hP
  refine lv_aload_n hx hb dL_withDayOfYear_0 rfl (lv_at hl 3 rfl) ?_
  refine lv_aload_n hx hb dL_withDayOfYear_1 rfl (lv_at hl 0 rfl) ?_
  refine lv_iload_n hx hb dL_withDayOfYear_2 rfl (lv_at hl 1 rfl) ?_
  refine lv_iload_n hx hb dL_withDayOfYear_3 rfl (lv_at hl 2 rfl) ?_
  refine thV (as := [.int p0, .int p1]) (rest := [.ref o]) (cl := RX0) C (tA_X0_withDayOfYear l hl9 G a p0 p1 h0 hbad) F_X0_withDayOfYear rfl bw492 bw493 bw494 hE hS hA (rv2 hE.K hPX (q0 := 0) rfl) hl.1 dL_withDayOfYear_4 ⟨Nat.le_of_ble_eq_true rfl, Nat.le_of_ble_eq_true rfl⟩ rfl (Nat.le_of_ble_eq_true rfl) ⟨Nat.le_of_ble_eq_true rfl, Nat.le_of_ble_eq_true rfl⟩ (fun q9 ce H1 locs1 hz ho hS1 hce hcv hcl => ?_)
  refine vx_catch hown [⟨0, 11, 14, 25⟩] ⟨0, 11, 18, 19⟩ [] (hT.trans rfl) (fun z hz => by cases List.mem_singleton.mp hz; exact Or.inr ⟨by decide, eI, hw _ bw382, hN.1⟩) (by decide) (by decide) (hw _ bw303) (castXX (hw _ bw312)) hce hcv hcl ?_
  refine lv_astore (lv' := [(4, .ref q9), (0, .ref (a 0)), (1, .int p0), (2, .int p1), (3, .ref o)]) hx hb dL_withDayOfYear_18 hl (Nat.le_of_ble_eq_true rfl) rfl (fun ls hl => ?_)
  refine lv_iconst (v := (2 : Int32)) hx hb dL_withDayOfYear_20 qi_2 ?_
  exact we_h hx hb hr hk (P_old hP ho) hD hS1 (Nat.le_of_ble_eq_true rfl) (Nat.le_of_ble_eq_true rfl) dL_withDayOfYear_21

set_option maxRecDepth 100000 in
set_option maxHeartbeats 4000000 in
theorem hG_withDayOfYear (l : Launch) (hl9 : l.stackTraces = false) (G : GT) (a : Nat → Nat) (o : Nat) (n : Int64) (sv : Value) (S : SX) (p0 : Int32) (p1 : Int32) (h0 : vp_in p0 6) (r1 : ¬ p1 < (1 : Int32)) (q1 : p1 ≤ (366 : Int32)) : HE l G yL_withDayOfYear cL_withDayOfYear 5 [(0, 11, 14, 25), (0, 11, 18, 19)] 10 0 0 [.ref (a 0), .int p0, .int p1, .ref o] (wH G a o n sv S) (wH G a o ((gX0_withDayOfYear S p0 p1).1.toInt64) sv ((gX0_withDayOfYear S p0 p1).2)) (0 : Int32) := by
  refine HE.ofW (own := RL) rfl pnN_RL (Nat.le_of_ble_eq_true rfl) ?_
  intro p e s m below meth c A C hr hk hT hN hE hP hD hA hAB hS ls hl
  have hx := C.1
  have hb := C.2.1
  have hown := C.2.2.2.1
  have hw := C.2.2.2.2
  have hl : lv_has ls 5 [(0, .ref (a 0)), (1, .int p0), (2, .int p1), (3, .ref o)] := hl
  have hPX : va_P (gD G) vwCl (wX G a S) s.heap := P_tail hP
  refine lv_aload_n hx hb dL_withDayOfYear_0 rfl (lv_at hl 3 rfl) ?_
  refine lv_aload_n hx hb dL_withDayOfYear_1 rfl (lv_at hl 0 rfl) ?_
  refine lv_iload_n hx hb dL_withDayOfYear_2 rfl (lv_at hl 1 rfl) ?_
  refine lv_iload_n hx hb dL_withDayOfYear_3 rfl (lv_at hl 2 rfl) ?_
  refine wcV1 (as := [.int p0, .int p1]) (rest := [.ref o]) (cl := RX0) C (c_X0_withDayOfYear l G a S p0 p1 h0 r1 q1) F_X0_withDayOfYear rfl bw492 bw493 bw494 hE hP hD hS hA hAB (rv2 hE.K hPX (q0 := 0) rfl) hl.1 dL_withDayOfYear_4 ⟨Nat.le_of_ble_eq_true rfl, Nat.le_of_ble_eq_true rfl⟩ rfl (Nat.le_of_ble_eq_true rfl) ⟨Nat.le_of_ble_eq_true rfl, Nat.le_of_ble_eq_true rfl⟩ (fun H locs hP hD hS => ?_)
  refine lv_i2l (v := (((gX0_withDayOfYear S p0 p1).1).toInt64)) hx hb dL_withDayOfYear_7 (by first | rfl | decide) ?_
  refine va_putN (D := gD G) (cl := vwCl) (tys := gT G) (ci := 3) (v := .long (((gX0_withDayOfYear S p0 p1).1).toInt64)) (ty := .long) (C := RX1) (T := TX1) (N := 2) hx hb hw inB_X1 tyX1 tyX1_ok nmX1 hown hE.K hP hD hS 0 rfl rfl 0 (by decide) (va_Nw.use rfl hN.2.1) (fun _ h9 => h9) rfl (by decide +kernel) rfl rfl (Nat.le_of_ble_eq_true rfl) dL_withDayOfYear_8 (fun H locs hP hD hS => ?_)
  refine lv_goto (tgt := 22) hx hb dL_withDayOfYear_11 (by decide) ?_
  refine lv_iconst (v := (0 : Int32)) hx hb dL_withDayOfYear_22 qi_0 ?_
  exact we_h hx hb hr hk hP hD hS (Nat.le_of_ble_eq_true rfl) (Nat.le_of_ble_eq_true rfl) dL_withDayOfYear_23

set_option maxRecDepth 100000 in
set_option maxHeartbeats 4000000 in
theorem hI_withHour (l : Launch) (hl9 : l.stackTraces = false) (G : GT) (a : Nat → Nat) (o : Nat) (n : Int64) (sv : Value) (S : SX) (p0 : Int32) (p1 : Int32) (hbad : ¬ (vp_in p0 6)) : HE l G yL_withHour cL_withHour 5 [(0, 11, 14, 25), (0, 11, 18, 19)] 10 1 6 [.ref (a 0), .int p0, .int p1, .ref o] (wH G a o n sv S) (wH G a o n sv S) (1 : Int32) := by
  refine HE.ofW (own := RL) rfl pnN_RL (Nat.le_of_ble_eq_true rfl) ?_
  intro p e s m below meth c A C hr hk hT hN hE hP hD hA hAB hS ls hl
  have hx := C.1
  have hb := C.2.1
  have hown := C.2.2.2.1
  have hw := C.2.2.2.2
  have hl : lv_has ls 5 [(0, .ref (a 0)), (1, .int p0), (2, .int p1), (3, .ref o)] := hl
  have hPX : va_P (gD G) vwCl (wX G a S) s.heap := P_tail hP
  refine lv_aload_n hx hb dL_withHour_0 rfl (lv_at hl 3 rfl) ?_
  refine lv_aload_n hx hb dL_withHour_1 rfl (lv_at hl 0 rfl) ?_
  refine lv_iload_n hx hb dL_withHour_2 rfl (lv_at hl 1 rfl) ?_
  refine lv_iload_n hx hb dL_withHour_3 rfl (lv_at hl 2 rfl) ?_
  refine thV (as := [.int p0, .int p1]) (rest := [.ref o]) (cl := RX0) C (tI_X0_withHour l hl9 G a p0 p1 hbad) F_X0_withHour rfl bw502 bw503 bw504 hE hS hA (rv2 hE.K hPX (q0 := 0) rfl) hl.1 dL_withHour_4 ⟨Nat.le_of_ble_eq_true rfl, Nat.le_of_ble_eq_true rfl⟩ rfl (Nat.le_of_ble_eq_true rfl) ⟨Nat.le_of_ble_eq_true rfl, Nat.le_of_ble_eq_true rfl⟩ (fun q9 ce H1 locs1 hz ho hS1 hce hcv hcl => ?_)
  refine vx_catch hown [] ⟨0, 11, 14, 25⟩ [⟨0, 11, 18, 19⟩] (hT.trans rfl) (fun z hz => nomatch hz) (by decide) (by decide) (hw _ bw382) (castXX (hw _ bw391)) hce hcv hcl ?_
  refine lv_astore (lv' := [(4, .ref q9), (0, .ref (a 0)), (1, .int p0), (2, .int p1), (3, .ref o)]) hx hb dL_withHour_14 hl (Nat.le_of_ble_eq_true rfl) rfl (fun ls hl => ?_)
  refine lv_iconst (v := (1 : Int32)) hx hb dL_withHour_16 qi_1 ?_
  exact we_h hx hb hr hk (P_old hP ho) hD hS1 (Nat.le_of_ble_eq_true rfl) (Nat.le_of_ble_eq_true rfl) dL_withHour_17

set_option maxRecDepth 100000 in
set_option maxHeartbeats 4000000 in
theorem hA_withHour (l : Launch) (hl9 : l.stackTraces = false) (G : GT) (a : Nat → Nat) (o : Nat) (n : Int64) (sv : Value) (S : SX) (p0 : Int32) (p1 : Int32) (h0 : vp_in p0 6) (hbad : ¬ ((¬ p1 < (0 : Int32) ∧ p1 ≤ (23 : Int32)))) : HE l G yL_withHour cL_withHour 5 [(0, 11, 14, 25), (0, 11, 18, 19)] 10 1 6 [.ref (a 0), .int p0, .int p1, .ref o] (wH G a o n sv S) (wH G a o n sv S) (2 : Int32) := by
  refine HE.ofW (own := RL) rfl pnN_RL (Nat.le_of_ble_eq_true rfl) ?_
  intro p e s m below meth c A C hr hk hT hN hE hP hD hA hAB hS ls hl
  have hx := C.1
  have hb := C.2.1
  have hown := C.2.2.2.1
  have hw := C.2.2.2.2
  have hl : lv_has ls 5 [(0, .ref (a 0)), (1, .int p0), (2, .int p1), (3, .ref o)] := hl
  have hPX : va_P (gD G) vwCl (wX G a S) s.heap := P_tail hP
  refine lv_aload_n hx hb dL_withHour_0 rfl (lv_at hl 3 rfl) ?_
  refine lv_aload_n hx hb dL_withHour_1 rfl (lv_at hl 0 rfl) ?_
  refine lv_iload_n hx hb dL_withHour_2 rfl (lv_at hl 1 rfl) ?_
  refine lv_iload_n hx hb dL_withHour_3 rfl (lv_at hl 2 rfl) ?_
  refine thV (as := [.int p0, .int p1]) (rest := [.ref o]) (cl := RX0) C (tA_X0_withHour l hl9 G a p0 p1 h0 hbad) F_X0_withHour rfl bw502 bw503 bw504 hE hS hA (rv2 hE.K hPX (q0 := 0) rfl) hl.1 dL_withHour_4 ⟨Nat.le_of_ble_eq_true rfl, Nat.le_of_ble_eq_true rfl⟩ rfl (Nat.le_of_ble_eq_true rfl) ⟨Nat.le_of_ble_eq_true rfl, Nat.le_of_ble_eq_true rfl⟩ (fun q9 ce H1 locs1 hz ho hS1 hce hcv hcl => ?_)
  refine vx_catch hown [⟨0, 11, 14, 25⟩] ⟨0, 11, 18, 19⟩ [] (hT.trans rfl) (fun z hz => by cases List.mem_singleton.mp hz; exact Or.inr ⟨by decide, eI, hw _ bw382, hN.1⟩) (by decide) (by decide) (hw _ bw303) (castXX (hw _ bw312)) hce hcv hcl ?_
  refine lv_astore (lv' := [(4, .ref q9), (0, .ref (a 0)), (1, .int p0), (2, .int p1), (3, .ref o)]) hx hb dL_withHour_18 hl (Nat.le_of_ble_eq_true rfl) rfl (fun ls hl => ?_)
  refine lv_iconst (v := (2 : Int32)) hx hb dL_withHour_20 qi_2 ?_
  exact we_h hx hb hr hk (P_old hP ho) hD hS1 (Nat.le_of_ble_eq_true rfl) (Nat.le_of_ble_eq_true rfl) dL_withHour_21

set_option maxRecDepth 100000 in
set_option maxHeartbeats 4000000 in
theorem hG_withHour (l : Launch) (hl9 : l.stackTraces = false) (G : GT) (a : Nat → Nat) (o : Nat) (n : Int64) (sv : Value) (S : SX) (p0 : Int32) (p1 : Int32) (h0 : vp_in p0 6) (r1 : ¬ p1 < (0 : Int32)) (q1 : p1 ≤ (23 : Int32)) : HE l G yL_withHour cL_withHour 5 [(0, 11, 14, 25), (0, 11, 18, 19)] 10 0 0 [.ref (a 0), .int p0, .int p1, .ref o] (wH G a o n sv S) (wH G a o ((gX0_withHour S p0 p1).1.toInt64) sv ((gX0_withHour S p0 p1).2)) (0 : Int32) := by
  refine HE.ofW (own := RL) rfl pnN_RL (Nat.le_of_ble_eq_true rfl) ?_
  intro p e s m below meth c A C hr hk hT hN hE hP hD hA hAB hS ls hl
  have hx := C.1
  have hb := C.2.1
  have hown := C.2.2.2.1
  have hw := C.2.2.2.2
  have hl : lv_has ls 5 [(0, .ref (a 0)), (1, .int p0), (2, .int p1), (3, .ref o)] := hl
  have hPX : va_P (gD G) vwCl (wX G a S) s.heap := P_tail hP
  refine lv_aload_n hx hb dL_withHour_0 rfl (lv_at hl 3 rfl) ?_
  refine lv_aload_n hx hb dL_withHour_1 rfl (lv_at hl 0 rfl) ?_
  refine lv_iload_n hx hb dL_withHour_2 rfl (lv_at hl 1 rfl) ?_
  refine lv_iload_n hx hb dL_withHour_3 rfl (lv_at hl 2 rfl) ?_
  refine wcV1 (as := [.int p0, .int p1]) (rest := [.ref o]) (cl := RX0) C (c_X0_withHour l G a S p0 p1 h0 r1 q1) F_X0_withHour rfl bw502 bw503 bw504 hE hP hD hS hA hAB (rv2 hE.K hPX (q0 := 0) rfl) hl.1 dL_withHour_4 ⟨Nat.le_of_ble_eq_true rfl, Nat.le_of_ble_eq_true rfl⟩ rfl (Nat.le_of_ble_eq_true rfl) ⟨Nat.le_of_ble_eq_true rfl, Nat.le_of_ble_eq_true rfl⟩ (fun H locs hP hD hS => ?_)
  refine lv_i2l (v := (((gX0_withHour S p0 p1).1).toInt64)) hx hb dL_withHour_7 (by first | rfl | decide) ?_
  refine va_putN (D := gD G) (cl := vwCl) (tys := gT G) (ci := 3) (v := .long (((gX0_withHour S p0 p1).1).toInt64)) (ty := .long) (C := RX1) (T := TX1) (N := 2) hx hb hw inB_X1 tyX1 tyX1_ok nmX1 hown hE.K hP hD hS 0 rfl rfl 0 (by decide) (va_Nw.use rfl hN.2.1) (fun _ h9 => h9) rfl (by decide +kernel) rfl rfl (Nat.le_of_ble_eq_true rfl) dL_withHour_8 (fun H locs hP hD hS => ?_)
  refine lv_goto (tgt := 22) hx hb dL_withHour_11 (by decide) ?_
  refine lv_iconst (v := (0 : Int32)) hx hb dL_withHour_22 qi_0 ?_
  exact we_h hx hb hr hk hP hD hS (Nat.le_of_ble_eq_true rfl) (Nat.le_of_ble_eq_true rfl) dL_withHour_23

set_option maxRecDepth 100000 in
set_option maxHeartbeats 4000000 in
theorem hI_withMinute (l : Launch) (hl9 : l.stackTraces = false) (G : GT) (a : Nat → Nat) (o : Nat) (n : Int64) (sv : Value) (S : SX) (p0 : Int32) (p1 : Int32) (hbad : ¬ (vp_in p0 6)) : HE l G yL_withMinute cL_withMinute 5 [(0, 11, 14, 25), (0, 11, 18, 19)] 10 1 6 [.ref (a 0), .int p0, .int p1, .ref o] (wH G a o n sv S) (wH G a o n sv S) (1 : Int32) := by
  refine HE.ofW (own := RL) rfl pnN_RL (Nat.le_of_ble_eq_true rfl) ?_
  intro p e s m below meth c A C hr hk hT hN hE hP hD hA hAB hS ls hl
  have hx := C.1
  have hb := C.2.1
  have hown := C.2.2.2.1
  have hw := C.2.2.2.2
  have hl : lv_has ls 5 [(0, .ref (a 0)), (1, .int p0), (2, .int p1), (3, .ref o)] := hl
  have hPX : va_P (gD G) vwCl (wX G a S) s.heap := P_tail hP
  refine lv_aload_n hx hb dL_withMinute_0 rfl (lv_at hl 3 rfl) ?_
  refine lv_aload_n hx hb dL_withMinute_1 rfl (lv_at hl 0 rfl) ?_
  refine lv_iload_n hx hb dL_withMinute_2 rfl (lv_at hl 1 rfl) ?_
  refine lv_iload_n hx hb dL_withMinute_3 rfl (lv_at hl 2 rfl) ?_
  refine thV (as := [.int p0, .int p1]) (rest := [.ref o]) (cl := RX0) C (tI_X0_withMinute l hl9 G a p0 p1 hbad) F_X0_withMinute rfl bw509 bw510 bw511 hE hS hA (rv2 hE.K hPX (q0 := 0) rfl) hl.1 dL_withMinute_4 ⟨Nat.le_of_ble_eq_true rfl, Nat.le_of_ble_eq_true rfl⟩ rfl (Nat.le_of_ble_eq_true rfl) ⟨Nat.le_of_ble_eq_true rfl, Nat.le_of_ble_eq_true rfl⟩ (fun q9 ce H1 locs1 hz ho hS1 hce hcv hcl => ?_)
  refine vx_catch hown [] ⟨0, 11, 14, 25⟩ [⟨0, 11, 18, 19⟩] (hT.trans rfl) (fun z hz => nomatch hz) (by decide) (by decide) (hw _ bw382) (castXX (hw _ bw391)) hce hcv hcl ?_
  refine lv_astore (lv' := [(4, .ref q9), (0, .ref (a 0)), (1, .int p0), (2, .int p1), (3, .ref o)]) hx hb dL_withMinute_14 hl (Nat.le_of_ble_eq_true rfl) rfl (fun ls hl => ?_)
  refine lv_iconst (v := (1 : Int32)) hx hb dL_withMinute_16 qi_1 ?_
  exact we_h hx hb hr hk (P_old hP ho) hD hS1 (Nat.le_of_ble_eq_true rfl) (Nat.le_of_ble_eq_true rfl) dL_withMinute_17

set_option maxRecDepth 100000 in
set_option maxHeartbeats 4000000 in
theorem hA_withMinute (l : Launch) (hl9 : l.stackTraces = false) (G : GT) (a : Nat → Nat) (o : Nat) (n : Int64) (sv : Value) (S : SX) (p0 : Int32) (p1 : Int32) (h0 : vp_in p0 6) (hbad : ¬ ((¬ p1 < (0 : Int32) ∧ p1 ≤ (59 : Int32)))) : HE l G yL_withMinute cL_withMinute 5 [(0, 11, 14, 25), (0, 11, 18, 19)] 10 1 6 [.ref (a 0), .int p0, .int p1, .ref o] (wH G a o n sv S) (wH G a o n sv S) (2 : Int32) := by
  refine HE.ofW (own := RL) rfl pnN_RL (Nat.le_of_ble_eq_true rfl) ?_
  intro p e s m below meth c A C hr hk hT hN hE hP hD hA hAB hS ls hl
  have hx := C.1
  have hb := C.2.1
  have hown := C.2.2.2.1
  have hw := C.2.2.2.2
  have hl : lv_has ls 5 [(0, .ref (a 0)), (1, .int p0), (2, .int p1), (3, .ref o)] := hl
  have hPX : va_P (gD G) vwCl (wX G a S) s.heap := P_tail hP
  refine lv_aload_n hx hb dL_withMinute_0 rfl (lv_at hl 3 rfl) ?_
  refine lv_aload_n hx hb dL_withMinute_1 rfl (lv_at hl 0 rfl) ?_
  refine lv_iload_n hx hb dL_withMinute_2 rfl (lv_at hl 1 rfl) ?_
  refine lv_iload_n hx hb dL_withMinute_3 rfl (lv_at hl 2 rfl) ?_
  refine thV (as := [.int p0, .int p1]) (rest := [.ref o]) (cl := RX0) C (tA_X0_withMinute l hl9 G a p0 p1 h0 hbad) F_X0_withMinute rfl bw509 bw510 bw511 hE hS hA (rv2 hE.K hPX (q0 := 0) rfl) hl.1 dL_withMinute_4 ⟨Nat.le_of_ble_eq_true rfl, Nat.le_of_ble_eq_true rfl⟩ rfl (Nat.le_of_ble_eq_true rfl) ⟨Nat.le_of_ble_eq_true rfl, Nat.le_of_ble_eq_true rfl⟩ (fun q9 ce H1 locs1 hz ho hS1 hce hcv hcl => ?_)
  refine vx_catch hown [⟨0, 11, 14, 25⟩] ⟨0, 11, 18, 19⟩ [] (hT.trans rfl) (fun z hz => by cases List.mem_singleton.mp hz; exact Or.inr ⟨by decide, eI, hw _ bw382, hN.1⟩) (by decide) (by decide) (hw _ bw303) (castXX (hw _ bw312)) hce hcv hcl ?_
  refine lv_astore (lv' := [(4, .ref q9), (0, .ref (a 0)), (1, .int p0), (2, .int p1), (3, .ref o)]) hx hb dL_withMinute_18 hl (Nat.le_of_ble_eq_true rfl) rfl (fun ls hl => ?_)
  refine lv_iconst (v := (2 : Int32)) hx hb dL_withMinute_20 qi_2 ?_
  exact we_h hx hb hr hk (P_old hP ho) hD hS1 (Nat.le_of_ble_eq_true rfl) (Nat.le_of_ble_eq_true rfl) dL_withMinute_21

set_option maxRecDepth 100000 in
set_option maxHeartbeats 4000000 in
theorem hG_withMinute (l : Launch) (hl9 : l.stackTraces = false) (G : GT) (a : Nat → Nat) (o : Nat) (n : Int64) (sv : Value) (S : SX) (p0 : Int32) (p1 : Int32) (h0 : vp_in p0 6) (r1 : ¬ p1 < (0 : Int32)) (q1 : p1 ≤ (59 : Int32)) : HE l G yL_withMinute cL_withMinute 5 [(0, 11, 14, 25), (0, 11, 18, 19)] 10 0 0 [.ref (a 0), .int p0, .int p1, .ref o] (wH G a o n sv S) (wH G a o ((gX0_withMinute S p0 p1).1.toInt64) sv ((gX0_withMinute S p0 p1).2)) (0 : Int32) := by
  refine HE.ofW (own := RL) rfl pnN_RL (Nat.le_of_ble_eq_true rfl) ?_
  intro p e s m below meth c A C hr hk hT hN hE hP hD hA hAB hS ls hl
  have hx := C.1
  have hb := C.2.1
  have hown := C.2.2.2.1
  have hw := C.2.2.2.2
  have hl : lv_has ls 5 [(0, .ref (a 0)), (1, .int p0), (2, .int p1), (3, .ref o)] := hl
  have hPX : va_P (gD G) vwCl (wX G a S) s.heap := P_tail hP
  refine lv_aload_n hx hb dL_withMinute_0 rfl (lv_at hl 3 rfl) ?_
  refine lv_aload_n hx hb dL_withMinute_1 rfl (lv_at hl 0 rfl) ?_
  refine lv_iload_n hx hb dL_withMinute_2 rfl (lv_at hl 1 rfl) ?_
  refine lv_iload_n hx hb dL_withMinute_3 rfl (lv_at hl 2 rfl) ?_
  refine wcV1 (as := [.int p0, .int p1]) (rest := [.ref o]) (cl := RX0) C (c_X0_withMinute l G a S p0 p1 h0 r1 q1) F_X0_withMinute rfl bw509 bw510 bw511 hE hP hD hS hA hAB (rv2 hE.K hPX (q0 := 0) rfl) hl.1 dL_withMinute_4 ⟨Nat.le_of_ble_eq_true rfl, Nat.le_of_ble_eq_true rfl⟩ rfl (Nat.le_of_ble_eq_true rfl) ⟨Nat.le_of_ble_eq_true rfl, Nat.le_of_ble_eq_true rfl⟩ (fun H locs hP hD hS => ?_)
  refine lv_i2l (v := (((gX0_withMinute S p0 p1).1).toInt64)) hx hb dL_withMinute_7 (by first | rfl | decide) ?_
  refine va_putN (D := gD G) (cl := vwCl) (tys := gT G) (ci := 3) (v := .long (((gX0_withMinute S p0 p1).1).toInt64)) (ty := .long) (C := RX1) (T := TX1) (N := 2) hx hb hw inB_X1 tyX1 tyX1_ok nmX1 hown hE.K hP hD hS 0 rfl rfl 0 (by decide) (va_Nw.use rfl hN.2.1) (fun _ h9 => h9) rfl (by decide +kernel) rfl rfl (Nat.le_of_ble_eq_true rfl) dL_withMinute_8 (fun H locs hP hD hS => ?_)
  refine lv_goto (tgt := 22) hx hb dL_withMinute_11 (by decide) ?_
  refine lv_iconst (v := (0 : Int32)) hx hb dL_withMinute_22 qi_0 ?_
  exact we_h hx hb hr hk hP hD hS (Nat.le_of_ble_eq_true rfl) (Nat.le_of_ble_eq_true rfl) dL_withMinute_23

set_option maxRecDepth 100000 in
set_option maxHeartbeats 4000000 in
theorem hI_withSecond (l : Launch) (hl9 : l.stackTraces = false) (G : GT) (a : Nat → Nat) (o : Nat) (n : Int64) (sv : Value) (S : SX) (p0 : Int32) (p1 : Int32) (hbad : ¬ (vp_in p0 6)) : HE l G yL_withSecond cL_withSecond 5 [(0, 11, 14, 25), (0, 11, 18, 19)] 10 1 6 [.ref (a 0), .int p0, .int p1, .ref o] (wH G a o n sv S) (wH G a o n sv S) (1 : Int32) := by
  refine HE.ofW (own := RL) rfl pnN_RL (Nat.le_of_ble_eq_true rfl) ?_
  intro p e s m below meth c A C hr hk hT hN hE hP hD hA hAB hS ls hl
  have hx := C.1
  have hb := C.2.1
  have hown := C.2.2.2.1
  have hw := C.2.2.2.2
  have hl : lv_has ls 5 [(0, .ref (a 0)), (1, .int p0), (2, .int p1), (3, .ref o)] := hl
  have hPX : va_P (gD G) vwCl (wX G a S) s.heap := P_tail hP
  refine lv_aload_n hx hb dL_withSecond_0 rfl (lv_at hl 3 rfl) ?_
  refine lv_aload_n hx hb dL_withSecond_1 rfl (lv_at hl 0 rfl) ?_
  refine lv_iload_n hx hb dL_withSecond_2 rfl (lv_at hl 1 rfl) ?_
  refine lv_iload_n hx hb dL_withSecond_3 rfl (lv_at hl 2 rfl) ?_
  refine thV (as := [.int p0, .int p1]) (rest := [.ref o]) (cl := RX0) C (tI_X0_withSecond l hl9 G a p0 p1 hbad) F_X0_withSecond rfl bw516 bw517 bw518 hE hS hA (rv2 hE.K hPX (q0 := 0) rfl) hl.1 dL_withSecond_4 ⟨Nat.le_of_ble_eq_true rfl, Nat.le_of_ble_eq_true rfl⟩ rfl (Nat.le_of_ble_eq_true rfl) ⟨Nat.le_of_ble_eq_true rfl, Nat.le_of_ble_eq_true rfl⟩ (fun q9 ce H1 locs1 hz ho hS1 hce hcv hcl => ?_)
  refine vx_catch hown [] ⟨0, 11, 14, 25⟩ [⟨0, 11, 18, 19⟩] (hT.trans rfl) (fun z hz => nomatch hz) (by decide) (by decide) (hw _ bw382) (castXX (hw _ bw391)) hce hcv hcl ?_
  refine lv_astore (lv' := [(4, .ref q9), (0, .ref (a 0)), (1, .int p0), (2, .int p1), (3, .ref o)]) hx hb dL_withSecond_14 hl (Nat.le_of_ble_eq_true rfl) rfl (fun ls hl => ?_)
  refine lv_iconst (v := (1 : Int32)) hx hb dL_withSecond_16 qi_1 ?_
  exact we_h hx hb hr hk (P_old hP ho) hD hS1 (Nat.le_of_ble_eq_true rfl) (Nat.le_of_ble_eq_true rfl) dL_withSecond_17

set_option maxRecDepth 100000 in
set_option maxHeartbeats 4000000 in
theorem hA_withSecond (l : Launch) (hl9 : l.stackTraces = false) (G : GT) (a : Nat → Nat) (o : Nat) (n : Int64) (sv : Value) (S : SX) (p0 : Int32) (p1 : Int32) (h0 : vp_in p0 6) (hbad : ¬ ((¬ p1 < (0 : Int32) ∧ p1 ≤ (59 : Int32)))) : HE l G yL_withSecond cL_withSecond 5 [(0, 11, 14, 25), (0, 11, 18, 19)] 10 1 6 [.ref (a 0), .int p0, .int p1, .ref o] (wH G a o n sv S) (wH G a o n sv S) (2 : Int32) := by
  refine HE.ofW (own := RL) rfl pnN_RL (Nat.le_of_ble_eq_true rfl) ?_
  intro p e s m below meth c A C hr hk hT hN hE hP hD hA hAB hS ls hl
  have hx := C.1
  have hb := C.2.1
  have hown := C.2.2.2.1
  have hw := C.2.2.2.2
  have hl : lv_has ls 5 [(0, .ref (a 0)), (1, .int p0), (2, .int p1), (3, .ref o)] := hl
  have hPX : va_P (gD G) vwCl (wX G a S) s.heap := P_tail hP
  refine lv_aload_n hx hb dL_withSecond_0 rfl (lv_at hl 3 rfl) ?_
  refine lv_aload_n hx hb dL_withSecond_1 rfl (lv_at hl 0 rfl) ?_
  refine lv_iload_n hx hb dL_withSecond_2 rfl (lv_at hl 1 rfl) ?_
  refine lv_iload_n hx hb dL_withSecond_3 rfl (lv_at hl 2 rfl) ?_
  refine thV (as := [.int p0, .int p1]) (rest := [.ref o]) (cl := RX0) C (tA_X0_withSecond l hl9 G a p0 p1 h0 hbad) F_X0_withSecond rfl bw516 bw517 bw518 hE hS hA (rv2 hE.K hPX (q0 := 0) rfl) hl.1 dL_withSecond_4 ⟨Nat.le_of_ble_eq_true rfl, Nat.le_of_ble_eq_true rfl⟩ rfl (Nat.le_of_ble_eq_true rfl) ⟨Nat.le_of_ble_eq_true rfl, Nat.le_of_ble_eq_true rfl⟩ (fun q9 ce H1 locs1 hz ho hS1 hce hcv hcl => ?_)
  refine vx_catch hown [⟨0, 11, 14, 25⟩] ⟨0, 11, 18, 19⟩ [] (hT.trans rfl) (fun z hz => by cases List.mem_singleton.mp hz; exact Or.inr ⟨by decide, eI, hw _ bw382, hN.1⟩) (by decide) (by decide) (hw _ bw303) (castXX (hw _ bw312)) hce hcv hcl ?_
  refine lv_astore (lv' := [(4, .ref q9), (0, .ref (a 0)), (1, .int p0), (2, .int p1), (3, .ref o)]) hx hb dL_withSecond_18 hl (Nat.le_of_ble_eq_true rfl) rfl (fun ls hl => ?_)
  refine lv_iconst (v := (2 : Int32)) hx hb dL_withSecond_20 qi_2 ?_
  exact we_h hx hb hr hk (P_old hP ho) hD hS1 (Nat.le_of_ble_eq_true rfl) (Nat.le_of_ble_eq_true rfl) dL_withSecond_21

set_option maxRecDepth 100000 in
set_option maxHeartbeats 4000000 in
theorem hG_withSecond (l : Launch) (hl9 : l.stackTraces = false) (G : GT) (a : Nat → Nat) (o : Nat) (n : Int64) (sv : Value) (S : SX) (p0 : Int32) (p1 : Int32) (h0 : vp_in p0 6) (r1 : ¬ p1 < (0 : Int32)) (q1 : p1 ≤ (59 : Int32)) : HE l G yL_withSecond cL_withSecond 5 [(0, 11, 14, 25), (0, 11, 18, 19)] 10 0 0 [.ref (a 0), .int p0, .int p1, .ref o] (wH G a o n sv S) (wH G a o ((gX0_withSecond S p0 p1).1.toInt64) sv ((gX0_withSecond S p0 p1).2)) (0 : Int32) := by
  refine HE.ofW (own := RL) rfl pnN_RL (Nat.le_of_ble_eq_true rfl) ?_
  intro p e s m below meth c A C hr hk hT hN hE hP hD hA hAB hS ls hl
  have hx := C.1
  have hb := C.2.1
  have hown := C.2.2.2.1
  have hw := C.2.2.2.2
  have hl : lv_has ls 5 [(0, .ref (a 0)), (1, .int p0), (2, .int p1), (3, .ref o)] := hl
  have hPX : va_P (gD G) vwCl (wX G a S) s.heap := P_tail hP
  refine lv_aload_n hx hb dL_withSecond_0 rfl (lv_at hl 3 rfl) ?_
  refine lv_aload_n hx hb dL_withSecond_1 rfl (lv_at hl 0 rfl) ?_
  refine lv_iload_n hx hb dL_withSecond_2 rfl (lv_at hl 1 rfl) ?_
  refine lv_iload_n hx hb dL_withSecond_3 rfl (lv_at hl 2 rfl) ?_
  refine wcV1 (as := [.int p0, .int p1]) (rest := [.ref o]) (cl := RX0) C (c_X0_withSecond l G a S p0 p1 h0 r1 q1) F_X0_withSecond rfl bw516 bw517 bw518 hE hP hD hS hA hAB (rv2 hE.K hPX (q0 := 0) rfl) hl.1 dL_withSecond_4 ⟨Nat.le_of_ble_eq_true rfl, Nat.le_of_ble_eq_true rfl⟩ rfl (Nat.le_of_ble_eq_true rfl) ⟨Nat.le_of_ble_eq_true rfl, Nat.le_of_ble_eq_true rfl⟩ (fun H locs hP hD hS => ?_)
  refine lv_i2l (v := (((gX0_withSecond S p0 p1).1).toInt64)) hx hb dL_withSecond_7 (by first | rfl | decide) ?_
  refine va_putN (D := gD G) (cl := vwCl) (tys := gT G) (ci := 3) (v := .long (((gX0_withSecond S p0 p1).1).toInt64)) (ty := .long) (C := RX1) (T := TX1) (N := 2) hx hb hw inB_X1 tyX1 tyX1_ok nmX1 hown hE.K hP hD hS 0 rfl rfl 0 (by decide) (va_Nw.use rfl hN.2.1) (fun _ h9 => h9) rfl (by decide +kernel) rfl rfl (Nat.le_of_ble_eq_true rfl) dL_withSecond_8 (fun H locs hP hD hS => ?_)
  refine lv_goto (tgt := 22) hx hb dL_withSecond_11 (by decide) ?_
  refine lv_iconst (v := (0 : Int32)) hx hb dL_withSecond_22 qi_0 ?_
  exact we_h hx hb hr hk hP hD hS (Nat.le_of_ble_eq_true rfl) (Nat.le_of_ble_eq_true rfl) dL_withSecond_23

set_option maxRecDepth 100000 in
set_option maxHeartbeats 4000000 in
theorem hI_withNano (l : Launch) (hl9 : l.stackTraces = false) (G : GT) (a : Nat → Nat) (o : Nat) (n : Int64) (sv : Value) (S : SX) (p0 : Int32) (p1 : Int32) (hbad : ¬ (vp_in p0 6)) : HE l G yL_withNano cL_withNano 5 [(0, 11, 14, 25), (0, 11, 18, 19)] 10 1 6 [.ref (a 0), .int p0, .int p1, .ref o] (wH G a o n sv S) (wH G a o n sv S) (1 : Int32) := by
  refine HE.ofW (own := RL) rfl pnN_RL (Nat.le_of_ble_eq_true rfl) ?_
  intro p e s m below meth c A C hr hk hT hN hE hP hD hA hAB hS ls hl
  have hx := C.1
  have hb := C.2.1
  have hown := C.2.2.2.1
  have hw := C.2.2.2.2
  have hl : lv_has ls 5 [(0, .ref (a 0)), (1, .int p0), (2, .int p1), (3, .ref o)] := hl
  have hPX : va_P (gD G) vwCl (wX G a S) s.heap := P_tail hP
  refine lv_aload_n hx hb dL_withNano_0 rfl (lv_at hl 3 rfl) ?_
  refine lv_aload_n hx hb dL_withNano_1 rfl (lv_at hl 0 rfl) ?_
  refine lv_iload_n hx hb dL_withNano_2 rfl (lv_at hl 1 rfl) ?_
  refine lv_iload_n hx hb dL_withNano_3 rfl (lv_at hl 2 rfl) ?_
  refine thV (as := [.int p0, .int p1]) (rest := [.ref o]) (cl := RX0) C (tI_X0_withNano l hl9 G a p0 p1 hbad) F_X0_withNano rfl bw523 bw524 bw525 hE hS hA (rv2 hE.K hPX (q0 := 0) rfl) hl.1 dL_withNano_4 ⟨Nat.le_of_ble_eq_true rfl, Nat.le_of_ble_eq_true rfl⟩ rfl (Nat.le_of_ble_eq_true rfl) ⟨Nat.le_of_ble_eq_true rfl, Nat.le_of_ble_eq_true rfl⟩ (fun q9 ce H1 locs1 hz ho hS1 hce hcv hcl => ?_)
  refine vx_catch hown [] ⟨0, 11, 14, 25⟩ [⟨0, 11, 18, 19⟩] (hT.trans rfl) (fun z hz => nomatch hz) (by decide) (by decide) (hw _ bw382) (castXX (hw _ bw391)) hce hcv hcl ?_
  refine lv_astore (lv' := [(4, .ref q9), (0, .ref (a 0)), (1, .int p0), (2, .int p1), (3, .ref o)]) hx hb dL_withNano_14 hl (Nat.le_of_ble_eq_true rfl) rfl (fun ls hl => ?_)
  refine lv_iconst (v := (1 : Int32)) hx hb dL_withNano_16 qi_1 ?_
  exact we_h hx hb hr hk (P_old hP ho) hD hS1 (Nat.le_of_ble_eq_true rfl) (Nat.le_of_ble_eq_true rfl) dL_withNano_17

set_option maxRecDepth 100000 in
set_option maxHeartbeats 4000000 in
theorem hA_withNano (l : Launch) (hl9 : l.stackTraces = false) (G : GT) (a : Nat → Nat) (o : Nat) (n : Int64) (sv : Value) (S : SX) (p0 : Int32) (p1 : Int32) (h0 : vp_in p0 6) (hbad : ¬ ((¬ p1 < (0 : Int32) ∧ p1 ≤ (999999999 : Int32)))) : HE l G yL_withNano cL_withNano 5 [(0, 11, 14, 25), (0, 11, 18, 19)] 10 1 6 [.ref (a 0), .int p0, .int p1, .ref o] (wH G a o n sv S) (wH G a o n sv S) (2 : Int32) := by
  refine HE.ofW (own := RL) rfl pnN_RL (Nat.le_of_ble_eq_true rfl) ?_
  intro p e s m below meth c A C hr hk hT hN hE hP hD hA hAB hS ls hl
  have hx := C.1
  have hb := C.2.1
  have hown := C.2.2.2.1
  have hw := C.2.2.2.2
  have hl : lv_has ls 5 [(0, .ref (a 0)), (1, .int p0), (2, .int p1), (3, .ref o)] := hl
  have hPX : va_P (gD G) vwCl (wX G a S) s.heap := P_tail hP
  refine lv_aload_n hx hb dL_withNano_0 rfl (lv_at hl 3 rfl) ?_
  refine lv_aload_n hx hb dL_withNano_1 rfl (lv_at hl 0 rfl) ?_
  refine lv_iload_n hx hb dL_withNano_2 rfl (lv_at hl 1 rfl) ?_
  refine lv_iload_n hx hb dL_withNano_3 rfl (lv_at hl 2 rfl) ?_
  refine thV (as := [.int p0, .int p1]) (rest := [.ref o]) (cl := RX0) C (tA_X0_withNano l hl9 G a p0 p1 h0 hbad) F_X0_withNano rfl bw523 bw524 bw525 hE hS hA (rv2 hE.K hPX (q0 := 0) rfl) hl.1 dL_withNano_4 ⟨Nat.le_of_ble_eq_true rfl, Nat.le_of_ble_eq_true rfl⟩ rfl (Nat.le_of_ble_eq_true rfl) ⟨Nat.le_of_ble_eq_true rfl, Nat.le_of_ble_eq_true rfl⟩ (fun q9 ce H1 locs1 hz ho hS1 hce hcv hcl => ?_)
  refine vx_catch hown [⟨0, 11, 14, 25⟩] ⟨0, 11, 18, 19⟩ [] (hT.trans rfl) (fun z hz => by cases List.mem_singleton.mp hz; exact Or.inr ⟨by decide, eI, hw _ bw382, hN.1⟩) (by decide) (by decide) (hw _ bw303) (castXX (hw _ bw312)) hce hcv hcl ?_
  refine lv_astore (lv' := [(4, .ref q9), (0, .ref (a 0)), (1, .int p0), (2, .int p1), (3, .ref o)]) hx hb dL_withNano_18 hl (Nat.le_of_ble_eq_true rfl) rfl (fun ls hl => ?_)
  refine lv_iconst (v := (2 : Int32)) hx hb dL_withNano_20 qi_2 ?_
  exact we_h hx hb hr hk (P_old hP ho) hD hS1 (Nat.le_of_ble_eq_true rfl) (Nat.le_of_ble_eq_true rfl) dL_withNano_21

set_option maxRecDepth 100000 in
set_option maxHeartbeats 4000000 in
theorem hG_withNano (l : Launch) (hl9 : l.stackTraces = false) (G : GT) (a : Nat → Nat) (o : Nat) (n : Int64) (sv : Value) (S : SX) (p0 : Int32) (p1 : Int32) (h0 : vp_in p0 6) (r1 : ¬ p1 < (0 : Int32)) (q1 : p1 ≤ (999999999 : Int32)) : HE l G yL_withNano cL_withNano 5 [(0, 11, 14, 25), (0, 11, 18, 19)] 10 0 0 [.ref (a 0), .int p0, .int p1, .ref o] (wH G a o n sv S) (wH G a o ((gX0_withNano S p0 p1).1.toInt64) sv ((gX0_withNano S p0 p1).2)) (0 : Int32) := by
  refine HE.ofW (own := RL) rfl pnN_RL (Nat.le_of_ble_eq_true rfl) ?_
  intro p e s m below meth c A C hr hk hT hN hE hP hD hA hAB hS ls hl
  have hx := C.1
  have hb := C.2.1
  have hown := C.2.2.2.1
  have hw := C.2.2.2.2
  have hl : lv_has ls 5 [(0, .ref (a 0)), (1, .int p0), (2, .int p1), (3, .ref o)] := hl
  have hPX : va_P (gD G) vwCl (wX G a S) s.heap := P_tail hP
  refine lv_aload_n hx hb dL_withNano_0 rfl (lv_at hl 3 rfl) ?_
  refine lv_aload_n hx hb dL_withNano_1 rfl (lv_at hl 0 rfl) ?_
  refine lv_iload_n hx hb dL_withNano_2 rfl (lv_at hl 1 rfl) ?_
  refine lv_iload_n hx hb dL_withNano_3 rfl (lv_at hl 2 rfl) ?_
  refine wcV1 (as := [.int p0, .int p1]) (rest := [.ref o]) (cl := RX0) C (c_X0_withNano l G a S p0 p1 h0 r1 q1) F_X0_withNano rfl bw523 bw524 bw525 hE hP hD hS hA hAB (rv2 hE.K hPX (q0 := 0) rfl) hl.1 dL_withNano_4 ⟨Nat.le_of_ble_eq_true rfl, Nat.le_of_ble_eq_true rfl⟩ rfl (Nat.le_of_ble_eq_true rfl) ⟨Nat.le_of_ble_eq_true rfl, Nat.le_of_ble_eq_true rfl⟩ (fun H locs hP hD hS => ?_)
  refine lv_i2l (v := (((gX0_withNano S p0 p1).1).toInt64)) hx hb dL_withNano_7 (by first | rfl | decide) ?_
  refine va_putN (D := gD G) (cl := vwCl) (tys := gT G) (ci := 3) (v := .long (((gX0_withNano S p0 p1).1).toInt64)) (ty := .long) (C := RX1) (T := TX1) (N := 2) hx hb hw inB_X1 tyX1 tyX1_ok nmX1 hown hE.K hP hD hS 0 rfl rfl 0 (by decide) (va_Nw.use rfl hN.2.1) (fun _ h9 => h9) rfl (by decide +kernel) rfl rfl (Nat.le_of_ble_eq_true rfl) dL_withNano_8 (fun H locs hP hD hS => ?_)
  refine lv_goto (tgt := 22) hx hb dL_withNano_11 (by decide) ?_
  refine lv_iconst (v := (0 : Int32)) hx hb dL_withNano_22 qi_0 ?_
  exact we_h hx hb hr hk hP hD hS (Nat.le_of_ble_eq_true rfl) (Nat.le_of_ble_eq_true rfl) dL_withNano_23

set_option maxRecDepth 100000 in
set_option maxHeartbeats 4000000 in
theorem hI_truncate (l : Launch) (hl9 : l.stackTraces = false) (G : GT) (a : Nat → Nat) (o : Nat) (n : Int64) (sv : Value) (S : SX) (p0 : Int32) (p1 : Int32) (hbad : ¬ (vp_in p0 6)) : HE l G yL_truncate cL_truncate 5 [(0, 11, 14, 25), (0, 11, 18, 19)] 10 1 6 [.ref (a 0), .int p0, .int p1, .ref o] (wH G a o n sv S) (wH G a o n sv S) (1 : Int32) := by
  refine HE.ofW (own := RL) rfl pnN_RL (Nat.le_of_ble_eq_true rfl) ?_
  intro p e s m below meth c A C hr hk hT hN hE hP hD hA hAB hS ls hl
  have hx := C.1
  have hb := C.2.1
  have hown := C.2.2.2.1
  have hw := C.2.2.2.2
  have hl : lv_has ls 5 [(0, .ref (a 0)), (1, .int p0), (2, .int p1), (3, .ref o)] := hl
  have hPX : va_P (gD G) vwCl (wX G a S) s.heap := P_tail hP
  refine lv_aload_n hx hb dL_truncate_0 rfl (lv_at hl 3 rfl) ?_
  refine lv_aload_n hx hb dL_truncate_1 rfl (lv_at hl 0 rfl) ?_
  refine lv_iload_n hx hb dL_truncate_2 rfl (lv_at hl 1 rfl) ?_
  refine lv_iload_n hx hb dL_truncate_3 rfl (lv_at hl 2 rfl) ?_
  refine thV (as := [.int p0, .int p1]) (rest := [.ref o]) (cl := RX0) C (tI_X0_truncate l hl9 G a p0 p1 hbad) F_X0_truncate rfl bw530 bw531 bw532 hE hS hA (rv2 hE.K hPX (q0 := 0) rfl) hl.1 dL_truncate_4 ⟨Nat.le_of_ble_eq_true rfl, Nat.le_of_ble_eq_true rfl⟩ rfl (Nat.le_of_ble_eq_true rfl) ⟨Nat.le_of_ble_eq_true rfl, Nat.le_of_ble_eq_true rfl⟩ (fun q9 ce H1 locs1 hz ho hS1 hce hcv hcl => ?_)
  refine vx_catch hown [] ⟨0, 11, 14, 25⟩ [⟨0, 11, 18, 19⟩] (hT.trans rfl) (fun z hz => nomatch hz) (by decide) (by decide) (hw _ bw382) (castXX (hw _ bw391)) hce hcv hcl ?_
  refine lv_astore (lv' := [(4, .ref q9), (0, .ref (a 0)), (1, .int p0), (2, .int p1), (3, .ref o)]) hx hb dL_truncate_14 hl (Nat.le_of_ble_eq_true rfl) rfl (fun ls hl => ?_)
  refine lv_iconst (v := (1 : Int32)) hx hb dL_truncate_16 qi_1 ?_
  exact we_h hx hb hr hk (P_old hP ho) hD hS1 (Nat.le_of_ble_eq_true rfl) (Nat.le_of_ble_eq_true rfl) dL_truncate_17

set_option maxRecDepth 100000 in
set_option maxHeartbeats 4000000 in
theorem hA_truncate (l : Launch) (hl9 : l.stackTraces = false) (G : GT) (a : Nat → Nat) (o : Nat) (n : Int64) (sv : Value) (S : SX) (p0 : Int32) (p1 : Int32) (h0 : vp_in p0 6) (hbad : ¬ ((¬ p1 < (0 : Int32) ∧ p1 ≤ (7 : Int32)))) : HE l G yL_truncate cL_truncate 5 [(0, 11, 14, 25), (0, 11, 18, 19)] 10 1 6 [.ref (a 0), .int p0, .int p1, .ref o] (wH G a o n sv S) (wH G a o n sv S) (2 : Int32) := by
  refine HE.ofW (own := RL) rfl pnN_RL (Nat.le_of_ble_eq_true rfl) ?_
  intro p e s m below meth c A C hr hk hT hN hE hP hD hA hAB hS ls hl
  have hx := C.1
  have hb := C.2.1
  have hown := C.2.2.2.1
  have hw := C.2.2.2.2
  have hl : lv_has ls 5 [(0, .ref (a 0)), (1, .int p0), (2, .int p1), (3, .ref o)] := hl
  have hPX : va_P (gD G) vwCl (wX G a S) s.heap := P_tail hP
  refine lv_aload_n hx hb dL_truncate_0 rfl (lv_at hl 3 rfl) ?_
  refine lv_aload_n hx hb dL_truncate_1 rfl (lv_at hl 0 rfl) ?_
  refine lv_iload_n hx hb dL_truncate_2 rfl (lv_at hl 1 rfl) ?_
  refine lv_iload_n hx hb dL_truncate_3 rfl (lv_at hl 2 rfl) ?_
  refine thV (as := [.int p0, .int p1]) (rest := [.ref o]) (cl := RX0) C (tA_X0_truncate l hl9 G a p0 p1 h0 hbad) F_X0_truncate rfl bw530 bw531 bw532 hE hS hA (rv2 hE.K hPX (q0 := 0) rfl) hl.1 dL_truncate_4 ⟨Nat.le_of_ble_eq_true rfl, Nat.le_of_ble_eq_true rfl⟩ rfl (Nat.le_of_ble_eq_true rfl) ⟨Nat.le_of_ble_eq_true rfl, Nat.le_of_ble_eq_true rfl⟩ (fun q9 ce H1 locs1 hz ho hS1 hce hcv hcl => ?_)
  refine vx_catch hown [⟨0, 11, 14, 25⟩] ⟨0, 11, 18, 19⟩ [] (hT.trans rfl) (fun z hz => by cases List.mem_singleton.mp hz; exact Or.inr ⟨by decide, eI, hw _ bw382, hN.1⟩) (by decide) (by decide) (hw _ bw303) (castXX (hw _ bw312)) hce hcv hcl ?_
  refine lv_astore (lv' := [(4, .ref q9), (0, .ref (a 0)), (1, .int p0), (2, .int p1), (3, .ref o)]) hx hb dL_truncate_18 hl (Nat.le_of_ble_eq_true rfl) rfl (fun ls hl => ?_)
  refine lv_iconst (v := (2 : Int32)) hx hb dL_truncate_20 qi_2 ?_
  exact we_h hx hb hr hk (P_old hP ho) hD hS1 (Nat.le_of_ble_eq_true rfl) (Nat.le_of_ble_eq_true rfl) dL_truncate_21

set_option maxRecDepth 100000 in
set_option maxHeartbeats 4000000 in
theorem hG_truncate (l : Launch) (hl9 : l.stackTraces = false) (G : GT) (a : Nat → Nat) (o : Nat) (n : Int64) (sv : Value) (S : SX) (p0 : Int32) (p1 : Int32) (h0 : vp_in p0 6) (r1 : ¬ p1 < (0 : Int32)) (q1 : p1 ≤ (7 : Int32)) : HE l G yL_truncate cL_truncate 5 [(0, 11, 14, 25), (0, 11, 18, 19)] 10 0 0 [.ref (a 0), .int p0, .int p1, .ref o] (wH G a o n sv S) (wH G a o ((gX0_truncate S p0 p1).1.toInt64) sv ((gX0_truncate S p0 p1).2)) (0 : Int32) := by
  refine HE.ofW (own := RL) rfl pnN_RL (Nat.le_of_ble_eq_true rfl) ?_
  intro p e s m below meth c A C hr hk hT hN hE hP hD hA hAB hS ls hl
  have hx := C.1
  have hb := C.2.1
  have hown := C.2.2.2.1
  have hw := C.2.2.2.2
  have hl : lv_has ls 5 [(0, .ref (a 0)), (1, .int p0), (2, .int p1), (3, .ref o)] := hl
  have hPX : va_P (gD G) vwCl (wX G a S) s.heap := P_tail hP
  refine lv_aload_n hx hb dL_truncate_0 rfl (lv_at hl 3 rfl) ?_
  refine lv_aload_n hx hb dL_truncate_1 rfl (lv_at hl 0 rfl) ?_
  refine lv_iload_n hx hb dL_truncate_2 rfl (lv_at hl 1 rfl) ?_
  refine lv_iload_n hx hb dL_truncate_3 rfl (lv_at hl 2 rfl) ?_
  refine wcV1 (as := [.int p0, .int p1]) (rest := [.ref o]) (cl := RX0) C (c_X0_truncate l G a S p0 p1 h0 r1 q1) F_X0_truncate rfl bw530 bw531 bw532 hE hP hD hS hA hAB (rv2 hE.K hPX (q0 := 0) rfl) hl.1 dL_truncate_4 ⟨Nat.le_of_ble_eq_true rfl, Nat.le_of_ble_eq_true rfl⟩ rfl (Nat.le_of_ble_eq_true rfl) ⟨Nat.le_of_ble_eq_true rfl, Nat.le_of_ble_eq_true rfl⟩ (fun H locs hP hD hS => ?_)
  refine lv_i2l (v := (((gX0_truncate S p0 p1).1).toInt64)) hx hb dL_truncate_7 (by first | rfl | decide) ?_
  refine va_putN (D := gD G) (cl := vwCl) (tys := gT G) (ci := 3) (v := .long (((gX0_truncate S p0 p1).1).toInt64)) (ty := .long) (C := RX1) (T := TX1) (N := 2) hx hb hw inB_X1 tyX1 tyX1_ok nmX1 hown hE.K hP hD hS 0 rfl rfl 0 (by decide) (va_Nw.use rfl hN.2.1) (fun _ h9 => h9) rfl (by decide +kernel) rfl rfl (Nat.le_of_ble_eq_true rfl) dL_truncate_8 (fun H locs hP hD hS => ?_)
  refine lv_goto (tgt := 22) hx hb dL_truncate_11 (by decide) ?_
  refine lv_iconst (v := (0 : Int32)) hx hb dL_truncate_22 qi_0 ?_
  exact we_h hx hb hr hk hP hD hS (Nat.le_of_ble_eq_true rfl) (Nat.le_of_ble_eq_true rfl) dL_truncate_23

set_option maxRecDepth 100000 in
set_option maxHeartbeats 4000000 in
theorem hI_plusYears (l : Launch) (hl9 : l.stackTraces = false) (G : GT) (a : Nat → Nat) (o : Nat) (n : Int64) (sv : Value) (S : SX) (p0 : Int32) (p1 : Int32) (hbad : ¬ (vp_in p0 6)) : HE l G yL_plusYears cL_plusYears 5 [(0, 11, 14, 25), (0, 11, 18, 19)] 10 1 6 [.ref (a 0), .int p0, .int p1, .ref o] (wH G a o n sv S) (wH G a o n sv S) (1 : Int32) := by
  refine HE.ofW (own := RL) rfl pnN_RL (Nat.le_of_ble_eq_true rfl) ?_
  intro p e s m below meth c A C hr hk hT hN hE hP hD hA hAB hS ls hl
  have hx := C.1
  have hb := C.2.1
  have hown := C.2.2.2.1
  have hw := C.2.2.2.2
  have hl : lv_has ls 5 [(0, .ref (a 0)), (1, .int p0), (2, .int p1), (3, .ref o)] := hl
  have hPX : va_P (gD G) vwCl (wX G a S) s.heap := P_tail hP
  refine lv_aload_n hx hb dL_plusYears_0 rfl (lv_at hl 3 rfl) ?_
  refine lv_aload_n hx hb dL_plusYears_1 rfl (lv_at hl 0 rfl) ?_
  refine lv_iload_n hx hb dL_plusYears_2 rfl (lv_at hl 1 rfl) ?_
  refine lv_iload_n hx hb dL_plusYears_3 rfl (lv_at hl 2 rfl) ?_
  refine thV (as := [.int p0, .int p1]) (rest := [.ref o]) (cl := RX0) C (tI_X0_plusYears l hl9 G a p0 p1 hbad) F_X0_plusYears rfl bw537 bw538 bw539 hE hS hA (rv2 hE.K hPX (q0 := 0) rfl) hl.1 dL_plusYears_4 ⟨Nat.le_of_ble_eq_true rfl, Nat.le_of_ble_eq_true rfl⟩ rfl (Nat.le_of_ble_eq_true rfl) ⟨Nat.le_of_ble_eq_true rfl, Nat.le_of_ble_eq_true rfl⟩ (fun q9 ce H1 locs1 hz ho hS1 hce hcv hcl => ?_)
  refine vx_catch hown [] ⟨0, 11, 14, 25⟩ [⟨0, 11, 18, 19⟩] (hT.trans rfl) (fun z hz => nomatch hz) (by decide) (by decide) (hw _ bw382) (castXX (hw _ bw391)) hce hcv hcl ?_
  refine lv_astore (lv' := [(4, .ref q9), (0, .ref (a 0)), (1, .int p0), (2, .int p1), (3, .ref o)]) hx hb dL_plusYears_14 hl (Nat.le_of_ble_eq_true rfl) rfl (fun ls hl => ?_)
  refine lv_iconst (v := (1 : Int32)) hx hb dL_plusYears_16 qi_1 ?_
  exact we_h hx hb hr hk (P_old hP ho) hD hS1 (Nat.le_of_ble_eq_true rfl) (Nat.le_of_ble_eq_true rfl) dL_plusYears_17

set_option maxRecDepth 100000 in
set_option maxHeartbeats 4000000 in
theorem hA_plusYears (l : Launch) (hl9 : l.stackTraces = false) (G : GT) (a : Nat → Nat) (o : Nat) (n : Int64) (sv : Value) (S : SX) (p0 : Int32) (p1 : Int32) (h0 : vp_in p0 6) (hbad : ¬ ((¬ p1 < (-100000000 : Int32) ∧ p1 ≤ (100000000 : Int32)))) : HE l G yL_plusYears cL_plusYears 5 [(0, 11, 14, 25), (0, 11, 18, 19)] 10 1 6 [.ref (a 0), .int p0, .int p1, .ref o] (wH G a o n sv S) (wH G a o n sv S) (2 : Int32) := by
  refine HE.ofW (own := RL) rfl pnN_RL (Nat.le_of_ble_eq_true rfl) ?_
  intro p e s m below meth c A C hr hk hT hN hE hP hD hA hAB hS ls hl
  have hx := C.1
  have hb := C.2.1
  have hown := C.2.2.2.1
  have hw := C.2.2.2.2
  have hl : lv_has ls 5 [(0, .ref (a 0)), (1, .int p0), (2, .int p1), (3, .ref o)] := hl
  have hPX : va_P (gD G) vwCl (wX G a S) s.heap := P_tail hP
  refine lv_aload_n hx hb dL_plusYears_0 rfl (lv_at hl 3 rfl) ?_
  refine lv_aload_n hx hb dL_plusYears_1 rfl (lv_at hl 0 rfl) ?_
  refine lv_iload_n hx hb dL_plusYears_2 rfl (lv_at hl 1 rfl) ?_
  refine lv_iload_n hx hb dL_plusYears_3 rfl (lv_at hl 2 rfl) ?_
  refine thV (as := [.int p0, .int p1]) (rest := [.ref o]) (cl := RX0) C (tA_X0_plusYears l hl9 G a p0 p1 h0 hbad) F_X0_plusYears rfl bw537 bw538 bw539 hE hS hA (rv2 hE.K hPX (q0 := 0) rfl) hl.1 dL_plusYears_4 ⟨Nat.le_of_ble_eq_true rfl, Nat.le_of_ble_eq_true rfl⟩ rfl (Nat.le_of_ble_eq_true rfl) ⟨Nat.le_of_ble_eq_true rfl, Nat.le_of_ble_eq_true rfl⟩ (fun q9 ce H1 locs1 hz ho hS1 hce hcv hcl => ?_)
  refine vx_catch hown [⟨0, 11, 14, 25⟩] ⟨0, 11, 18, 19⟩ [] (hT.trans rfl) (fun z hz => by cases List.mem_singleton.mp hz; exact Or.inr ⟨by decide, eI, hw _ bw382, hN.1⟩) (by decide) (by decide) (hw _ bw303) (castXX (hw _ bw312)) hce hcv hcl ?_
  refine lv_astore (lv' := [(4, .ref q9), (0, .ref (a 0)), (1, .int p0), (2, .int p1), (3, .ref o)]) hx hb dL_plusYears_18 hl (Nat.le_of_ble_eq_true rfl) rfl (fun ls hl => ?_)
  refine lv_iconst (v := (2 : Int32)) hx hb dL_plusYears_20 qi_2 ?_
  exact we_h hx hb hr hk (P_old hP ho) hD hS1 (Nat.le_of_ble_eq_true rfl) (Nat.le_of_ble_eq_true rfl) dL_plusYears_21

set_option maxRecDepth 100000 in
set_option maxHeartbeats 4000000 in
theorem hG_plusYears (l : Launch) (hl9 : l.stackTraces = false) (G : GT) (a : Nat → Nat) (o : Nat) (n : Int64) (sv : Value) (S : SX) (p0 : Int32) (p1 : Int32) (h0 : vp_in p0 6) (r1 : ¬ p1 < (-100000000 : Int32)) (q1 : p1 ≤ (100000000 : Int32)) : HE l G yL_plusYears cL_plusYears 5 [(0, 11, 14, 25), (0, 11, 18, 19)] 10 0 0 [.ref (a 0), .int p0, .int p1, .ref o] (wH G a o n sv S) (wH G a o ((gX0_plusYears S p0 p1).1.toInt64) sv ((gX0_plusYears S p0 p1).2)) (0 : Int32) := by
  refine HE.ofW (own := RL) rfl pnN_RL (Nat.le_of_ble_eq_true rfl) ?_
  intro p e s m below meth c A C hr hk hT hN hE hP hD hA hAB hS ls hl
  have hx := C.1
  have hb := C.2.1
  have hown := C.2.2.2.1
  have hw := C.2.2.2.2
  have hl : lv_has ls 5 [(0, .ref (a 0)), (1, .int p0), (2, .int p1), (3, .ref o)] := hl
  have hPX : va_P (gD G) vwCl (wX G a S) s.heap := P_tail hP
  refine lv_aload_n hx hb dL_plusYears_0 rfl (lv_at hl 3 rfl) ?_
  refine lv_aload_n hx hb dL_plusYears_1 rfl (lv_at hl 0 rfl) ?_
  refine lv_iload_n hx hb dL_plusYears_2 rfl (lv_at hl 1 rfl) ?_
  refine lv_iload_n hx hb dL_plusYears_3 rfl (lv_at hl 2 rfl) ?_
  refine wcV1 (as := [.int p0, .int p1]) (rest := [.ref o]) (cl := RX0) C (c_X0_plusYears l G a S p0 p1 h0 r1 q1) F_X0_plusYears rfl bw537 bw538 bw539 hE hP hD hS hA hAB (rv2 hE.K hPX (q0 := 0) rfl) hl.1 dL_plusYears_4 ⟨Nat.le_of_ble_eq_true rfl, Nat.le_of_ble_eq_true rfl⟩ rfl (Nat.le_of_ble_eq_true rfl) ⟨Nat.le_of_ble_eq_true rfl, Nat.le_of_ble_eq_true rfl⟩ (fun H locs hP hD hS => ?_)
  refine lv_i2l (v := (((gX0_plusYears S p0 p1).1).toInt64)) hx hb dL_plusYears_7 (by first | rfl | decide) ?_
  refine va_putN (D := gD G) (cl := vwCl) (tys := gT G) (ci := 3) (v := .long (((gX0_plusYears S p0 p1).1).toInt64)) (ty := .long) (C := RX1) (T := TX1) (N := 2) hx hb hw inB_X1 tyX1 tyX1_ok nmX1 hown hE.K hP hD hS 0 rfl rfl 0 (by decide) (va_Nw.use rfl hN.2.1) (fun _ h9 => h9) rfl (by decide +kernel) rfl rfl (Nat.le_of_ble_eq_true rfl) dL_plusYears_8 (fun H locs hP hD hS => ?_)
  refine lv_goto (tgt := 22) hx hb dL_plusYears_11 (by decide) ?_
  refine lv_iconst (v := (0 : Int32)) hx hb dL_plusYears_22 qi_0 ?_
  exact we_h hx hb hr hk hP hD hS (Nat.le_of_ble_eq_true rfl) (Nat.le_of_ble_eq_true rfl) dL_plusYears_23

set_option maxRecDepth 100000 in
set_option maxHeartbeats 4000000 in
theorem hI_minusYears (l : Launch) (hl9 : l.stackTraces = false) (G : GT) (a : Nat → Nat) (o : Nat) (n : Int64) (sv : Value) (S : SX) (p0 : Int32) (p1 : Int32) (hbad : ¬ (vp_in p0 6)) : HE l G yL_minusYears cL_minusYears 5 [(0, 11, 14, 25), (0, 11, 18, 19)] 10 1 6 [.ref (a 0), .int p0, .int p1, .ref o] (wH G a o n sv S) (wH G a o n sv S) (1 : Int32) := by
  refine HE.ofW (own := RL) rfl pnN_RL (Nat.le_of_ble_eq_true rfl) ?_
  intro p e s m below meth c A C hr hk hT hN hE hP hD hA hAB hS ls hl
  have hx := C.1
  have hb := C.2.1
  have hown := C.2.2.2.1
  have hw := C.2.2.2.2
  have hl : lv_has ls 5 [(0, .ref (a 0)), (1, .int p0), (2, .int p1), (3, .ref o)] := hl
  have hPX : va_P (gD G) vwCl (wX G a S) s.heap := P_tail hP
  refine lv_aload_n hx hb dL_minusYears_0 rfl (lv_at hl 3 rfl) ?_
  refine lv_aload_n hx hb dL_minusYears_1 rfl (lv_at hl 0 rfl) ?_
  refine lv_iload_n hx hb dL_minusYears_2 rfl (lv_at hl 1 rfl) ?_
  refine lv_iload_n hx hb dL_minusYears_3 rfl (lv_at hl 2 rfl) ?_
  refine thV (as := [.int p0, .int p1]) (rest := [.ref o]) (cl := RX0) C (tI_X0_minusYears l hl9 G a p0 p1 hbad) F_X0_minusYears rfl bw607 bw608 bw609 hE hS hA (rv2 hE.K hPX (q0 := 0) rfl) hl.1 dL_minusYears_4 ⟨Nat.le_of_ble_eq_true rfl, Nat.le_of_ble_eq_true rfl⟩ rfl (Nat.le_of_ble_eq_true rfl) ⟨Nat.le_of_ble_eq_true rfl, Nat.le_of_ble_eq_true rfl⟩ (fun q9 ce H1 locs1 hz ho hS1 hce hcv hcl => ?_)
  refine vx_catch hown [] ⟨0, 11, 14, 25⟩ [⟨0, 11, 18, 19⟩] (hT.trans rfl) (fun z hz => nomatch hz) (by decide) (by decide) (hw _ bw382) (castXX (hw _ bw391)) hce hcv hcl ?_
  refine lv_astore (lv' := [(4, .ref q9), (0, .ref (a 0)), (1, .int p0), (2, .int p1), (3, .ref o)]) hx hb dL_minusYears_14 hl (Nat.le_of_ble_eq_true rfl) rfl (fun ls hl => ?_)
  refine lv_iconst (v := (1 : Int32)) hx hb dL_minusYears_16 qi_1 ?_
  exact we_h hx hb hr hk (P_old hP ho) hD hS1 (Nat.le_of_ble_eq_true rfl) (Nat.le_of_ble_eq_true rfl) dL_minusYears_17

set_option maxRecDepth 100000 in
set_option maxHeartbeats 4000000 in
theorem hA_minusYears (l : Launch) (hl9 : l.stackTraces = false) (G : GT) (a : Nat → Nat) (o : Nat) (n : Int64) (sv : Value) (S : SX) (p0 : Int32) (p1 : Int32) (h0 : vp_in p0 6) (hbad : ¬ ((¬ p1 < (-100000000 : Int32) ∧ p1 ≤ (100000000 : Int32)))) : HE l G yL_minusYears cL_minusYears 5 [(0, 11, 14, 25), (0, 11, 18, 19)] 10 1 6 [.ref (a 0), .int p0, .int p1, .ref o] (wH G a o n sv S) (wH G a o n sv S) (2 : Int32) := by
  refine HE.ofW (own := RL) rfl pnN_RL (Nat.le_of_ble_eq_true rfl) ?_
  intro p e s m below meth c A C hr hk hT hN hE hP hD hA hAB hS ls hl
  have hx := C.1
  have hb := C.2.1
  have hown := C.2.2.2.1
  have hw := C.2.2.2.2
  have hl : lv_has ls 5 [(0, .ref (a 0)), (1, .int p0), (2, .int p1), (3, .ref o)] := hl
  have hPX : va_P (gD G) vwCl (wX G a S) s.heap := P_tail hP
  refine lv_aload_n hx hb dL_minusYears_0 rfl (lv_at hl 3 rfl) ?_
  refine lv_aload_n hx hb dL_minusYears_1 rfl (lv_at hl 0 rfl) ?_
  refine lv_iload_n hx hb dL_minusYears_2 rfl (lv_at hl 1 rfl) ?_
  refine lv_iload_n hx hb dL_minusYears_3 rfl (lv_at hl 2 rfl) ?_
  refine thV (as := [.int p0, .int p1]) (rest := [.ref o]) (cl := RX0) C (tA_X0_minusYears l hl9 G a p0 p1 h0 hbad) F_X0_minusYears rfl bw607 bw608 bw609 hE hS hA (rv2 hE.K hPX (q0 := 0) rfl) hl.1 dL_minusYears_4 ⟨Nat.le_of_ble_eq_true rfl, Nat.le_of_ble_eq_true rfl⟩ rfl (Nat.le_of_ble_eq_true rfl) ⟨Nat.le_of_ble_eq_true rfl, Nat.le_of_ble_eq_true rfl⟩ (fun q9 ce H1 locs1 hz ho hS1 hce hcv hcl => ?_)
  refine vx_catch hown [⟨0, 11, 14, 25⟩] ⟨0, 11, 18, 19⟩ [] (hT.trans rfl) (fun z hz => by cases List.mem_singleton.mp hz; exact Or.inr ⟨by decide, eI, hw _ bw382, hN.1⟩) (by decide) (by decide) (hw _ bw303) (castXX (hw _ bw312)) hce hcv hcl ?_
  refine lv_astore (lv' := [(4, .ref q9), (0, .ref (a 0)), (1, .int p0), (2, .int p1), (3, .ref o)]) hx hb dL_minusYears_18 hl (Nat.le_of_ble_eq_true rfl) rfl (fun ls hl => ?_)
  refine lv_iconst (v := (2 : Int32)) hx hb dL_minusYears_20 qi_2 ?_
  exact we_h hx hb hr hk (P_old hP ho) hD hS1 (Nat.le_of_ble_eq_true rfl) (Nat.le_of_ble_eq_true rfl) dL_minusYears_21

set_option maxRecDepth 100000 in
set_option maxHeartbeats 4000000 in
theorem hG_minusYears (l : Launch) (hl9 : l.stackTraces = false) (G : GT) (a : Nat → Nat) (o : Nat) (n : Int64) (sv : Value) (S : SX) (p0 : Int32) (p1 : Int32) (h0 : vp_in p0 6) (r1 : ¬ p1 < (-100000000 : Int32)) (q1 : p1 ≤ (100000000 : Int32)) : HE l G yL_minusYears cL_minusYears 5 [(0, 11, 14, 25), (0, 11, 18, 19)] 10 0 0 [.ref (a 0), .int p0, .int p1, .ref o] (wH G a o n sv S) (wH G a o ((gX0_minusYears S p0 p1).1.toInt64) sv ((gX0_minusYears S p0 p1).2)) (0 : Int32) := by
  refine HE.ofW (own := RL) rfl pnN_RL (Nat.le_of_ble_eq_true rfl) ?_
  intro p e s m below meth c A C hr hk hT hN hE hP hD hA hAB hS ls hl
  have hx := C.1
  have hb := C.2.1
  have hown := C.2.2.2.1
  have hw := C.2.2.2.2
  have hl : lv_has ls 5 [(0, .ref (a 0)), (1, .int p0), (2, .int p1), (3, .ref o)] := hl
  have hPX : va_P (gD G) vwCl (wX G a S) s.heap := P_tail hP
  refine lv_aload_n hx hb dL_minusYears_0 rfl (lv_at hl 3 rfl) ?_
  refine lv_aload_n hx hb dL_minusYears_1 rfl (lv_at hl 0 rfl) ?_
  refine lv_iload_n hx hb dL_minusYears_2 rfl (lv_at hl 1 rfl) ?_
  refine lv_iload_n hx hb dL_minusYears_3 rfl (lv_at hl 2 rfl) ?_
  refine wcV1 (as := [.int p0, .int p1]) (rest := [.ref o]) (cl := RX0) C (c_X0_minusYears l G a S p0 p1 h0 r1 q1) F_X0_minusYears rfl bw607 bw608 bw609 hE hP hD hS hA hAB (rv2 hE.K hPX (q0 := 0) rfl) hl.1 dL_minusYears_4 ⟨Nat.le_of_ble_eq_true rfl, Nat.le_of_ble_eq_true rfl⟩ rfl (Nat.le_of_ble_eq_true rfl) ⟨Nat.le_of_ble_eq_true rfl, Nat.le_of_ble_eq_true rfl⟩ (fun H locs hP hD hS => ?_)
  refine lv_i2l (v := (((gX0_minusYears S p0 p1).1).toInt64)) hx hb dL_minusYears_7 (by first | rfl | decide) ?_
  refine va_putN (D := gD G) (cl := vwCl) (tys := gT G) (ci := 3) (v := .long (((gX0_minusYears S p0 p1).1).toInt64)) (ty := .long) (C := RX1) (T := TX1) (N := 2) hx hb hw inB_X1 tyX1 tyX1_ok nmX1 hown hE.K hP hD hS 0 rfl rfl 0 (by decide) (va_Nw.use rfl hN.2.1) (fun _ h9 => h9) rfl (by decide +kernel) rfl rfl (Nat.le_of_ble_eq_true rfl) dL_minusYears_8 (fun H locs hP hD hS => ?_)
  refine lv_goto (tgt := 22) hx hb dL_minusYears_11 (by decide) ?_
  refine lv_iconst (v := (0 : Int32)) hx hb dL_minusYears_22 qi_0 ?_
  exact we_h hx hb hr hk hP hD hS (Nat.le_of_ble_eq_true rfl) (Nat.le_of_ble_eq_true rfl) dL_minusYears_23

set_option maxRecDepth 100000 in
set_option maxHeartbeats 4000000 in
theorem hI_plusMonths (l : Launch) (hl9 : l.stackTraces = false) (G : GT) (a : Nat → Nat) (o : Nat) (n : Int64) (sv : Value) (S : SX) (p0 : Int32) (p1 : Int32) (hbad : ¬ (vp_in p0 6)) : HE l G yL_plusMonths cL_plusMonths 5 [(0, 11, 14, 25)] 10 1 6 [.ref (a 0), .int p0, .int p1, .ref o] (wH G a o n sv S) (wH G a o n sv S) (1 : Int32) := by
  refine HE.ofW (own := RL) rfl pnN_RL (Nat.le_of_ble_eq_true rfl) ?_
  intro p e s m below meth c A C hr hk hT hN hE hP hD hA hAB hS ls hl
  have hx := C.1
  have hb := C.2.1
  have hown := C.2.2.2.1
  have hw := C.2.2.2.2
  have hl : lv_has ls 5 [(0, .ref (a 0)), (1, .int p0), (2, .int p1), (3, .ref o)] := hl
  have hPX : va_P (gD G) vwCl (wX G a S) s.heap := P_tail hP
  refine lv_aload_n hx hb dL_plusMonths_0 rfl (lv_at hl 3 rfl) ?_
  refine lv_aload_n hx hb dL_plusMonths_1 rfl (lv_at hl 0 rfl) ?_
  refine lv_iload_n hx hb dL_plusMonths_2 rfl (lv_at hl 1 rfl) ?_
  refine lv_iload_n hx hb dL_plusMonths_3 rfl (lv_at hl 2 rfl) ?_
  refine thV (as := [.int p0, .int p1]) (rest := [.ref o]) (cl := RX0) C (tI_X0_plusMonths l hl9 G a p0 p1 hbad) F_X0_plusMonths rfl bw557 bw558 bw559 hE hS hA (rv2 hE.K hPX (q0 := 0) rfl) hl.1 dL_plusMonths_4 ⟨Nat.le_of_ble_eq_true rfl, Nat.le_of_ble_eq_true rfl⟩ rfl (Nat.le_of_ble_eq_true rfl) ⟨Nat.le_of_ble_eq_true rfl, Nat.le_of_ble_eq_true rfl⟩ (fun q9 ce H1 locs1 hz ho hS1 hce hcv hcl => ?_)
  refine vx_catch hown [] ⟨0, 11, 14, 25⟩ [] (hT.trans rfl) (fun z hz => nomatch hz) (by decide) (by decide) (hw _ bw382) (castXX (hw _ bw391)) hce hcv hcl ?_
  refine lv_astore (lv' := [(4, .ref q9), (0, .ref (a 0)), (1, .int p0), (2, .int p1), (3, .ref o)]) hx hb dL_plusMonths_14 hl (Nat.le_of_ble_eq_true rfl) rfl (fun ls hl => ?_)
  refine lv_iconst (v := (1 : Int32)) hx hb dL_plusMonths_16 qi_1 ?_
  exact we_h hx hb hr hk (P_old hP ho) hD hS1 (Nat.le_of_ble_eq_true rfl) (Nat.le_of_ble_eq_true rfl) dL_plusMonths_17

set_option maxRecDepth 100000 in
set_option maxHeartbeats 4000000 in
theorem hG_plusMonths (l : Launch) (hl9 : l.stackTraces = false) (G : GT) (a : Nat → Nat) (o : Nat) (n : Int64) (sv : Value) (S : SX) (p0 : Int32) (p1 : Int32) (h0 : vp_in p0 6) : HE l G yL_plusMonths cL_plusMonths 5 [(0, 11, 14, 25)] 10 0 0 [.ref (a 0), .int p0, .int p1, .ref o] (wH G a o n sv S) (wH G a o ((gX0_plusMonths S p0 p1).1.toInt64) sv ((gX0_plusMonths S p0 p1).2)) (0 : Int32) := by
  refine HE.ofW (own := RL) rfl pnN_RL (Nat.le_of_ble_eq_true rfl) ?_
  intro p e s m below meth c A C hr hk hT hN hE hP hD hA hAB hS ls hl
  have hx := C.1
  have hb := C.2.1
  have hown := C.2.2.2.1
  have hw := C.2.2.2.2
  have hl : lv_has ls 5 [(0, .ref (a 0)), (1, .int p0), (2, .int p1), (3, .ref o)] := hl
  have hPX : va_P (gD G) vwCl (wX G a S) s.heap := P_tail hP
  refine lv_aload_n hx hb dL_plusMonths_0 rfl (lv_at hl 3 rfl) ?_
  refine lv_aload_n hx hb dL_plusMonths_1 rfl (lv_at hl 0 rfl) ?_
  refine lv_iload_n hx hb dL_plusMonths_2 rfl (lv_at hl 1 rfl) ?_
  refine lv_iload_n hx hb dL_plusMonths_3 rfl (lv_at hl 2 rfl) ?_
  refine wcV1 (as := [.int p0, .int p1]) (rest := [.ref o]) (cl := RX0) C (c_X0_plusMonths l G a S p0 p1 h0) F_X0_plusMonths rfl bw557 bw558 bw559 hE hP hD hS hA hAB (rv2 hE.K hPX (q0 := 0) rfl) hl.1 dL_plusMonths_4 ⟨Nat.le_of_ble_eq_true rfl, Nat.le_of_ble_eq_true rfl⟩ rfl (Nat.le_of_ble_eq_true rfl) ⟨Nat.le_of_ble_eq_true rfl, Nat.le_of_ble_eq_true rfl⟩ (fun H locs hP hD hS => ?_)
  refine lv_i2l (v := (((gX0_plusMonths S p0 p1).1).toInt64)) hx hb dL_plusMonths_7 (by first | rfl | decide) ?_
  refine va_putN (D := gD G) (cl := vwCl) (tys := gT G) (ci := 3) (v := .long (((gX0_plusMonths S p0 p1).1).toInt64)) (ty := .long) (C := RX1) (T := TX1) (N := 2) hx hb hw inB_X1 tyX1 tyX1_ok nmX1 hown hE.K hP hD hS 0 rfl rfl 0 (by decide) (va_Nw.use rfl hN.2.1) (fun _ h9 => h9) rfl (by decide +kernel) rfl rfl (Nat.le_of_ble_eq_true rfl) dL_plusMonths_8 (fun H locs hP hD hS => ?_)
  refine lv_goto (tgt := 18) hx hb dL_plusMonths_11 (by decide) ?_
  refine lv_iconst (v := (0 : Int32)) hx hb dL_plusMonths_18 qi_0 ?_
  exact we_h hx hb hr hk hP hD hS (Nat.le_of_ble_eq_true rfl) (Nat.le_of_ble_eq_true rfl) dL_plusMonths_19

set_option maxRecDepth 100000 in
set_option maxHeartbeats 4000000 in
theorem hI_minusMonths (l : Launch) (hl9 : l.stackTraces = false) (G : GT) (a : Nat → Nat) (o : Nat) (n : Int64) (sv : Value) (S : SX) (p0 : Int32) (p1 : Int32) (hbad : ¬ (vp_in p0 6)) : HE l G yL_minusMonths cL_minusMonths 5 [(0, 11, 14, 25)] 10 1 6 [.ref (a 0), .int p0, .int p1, .ref o] (wH G a o n sv S) (wH G a o n sv S) (1 : Int32) := by
  refine HE.ofW (own := RL) rfl pnN_RL (Nat.le_of_ble_eq_true rfl) ?_
  intro p e s m below meth c A C hr hk hT hN hE hP hD hA hAB hS ls hl
  have hx := C.1
  have hb := C.2.1
  have hown := C.2.2.2.1
  have hw := C.2.2.2.2
  have hl : lv_has ls 5 [(0, .ref (a 0)), (1, .int p0), (2, .int p1), (3, .ref o)] := hl
  have hPX : va_P (gD G) vwCl (wX G a S) s.heap := P_tail hP
  refine lv_aload_n hx hb dL_minusMonths_0 rfl (lv_at hl 3 rfl) ?_
  refine lv_aload_n hx hb dL_minusMonths_1 rfl (lv_at hl 0 rfl) ?_
  refine lv_iload_n hx hb dL_minusMonths_2 rfl (lv_at hl 1 rfl) ?_
  refine lv_iload_n hx hb dL_minusMonths_3 rfl (lv_at hl 2 rfl) ?_
  refine thV (as := [.int p0, .int p1]) (rest := [.ref o]) (cl := RX0) C (tI_X0_minusMonths l hl9 G a p0 p1 hbad) F_X0_minusMonths rfl bw615 bw616 bw617 hE hS hA (rv2 hE.K hPX (q0 := 0) rfl) hl.1 dL_minusMonths_4 ⟨Nat.le_of_ble_eq_true rfl, Nat.le_of_ble_eq_true rfl⟩ rfl (Nat.le_of_ble_eq_true rfl) ⟨Nat.le_of_ble_eq_true rfl, Nat.le_of_ble_eq_true rfl⟩ (fun q9 ce H1 locs1 hz ho hS1 hce hcv hcl => ?_)
  refine vx_catch hown [] ⟨0, 11, 14, 25⟩ [] (hT.trans rfl) (fun z hz => nomatch hz) (by decide) (by decide) (hw _ bw382) (castXX (hw _ bw391)) hce hcv hcl ?_
  refine lv_astore (lv' := [(4, .ref q9), (0, .ref (a 0)), (1, .int p0), (2, .int p1), (3, .ref o)]) hx hb dL_minusMonths_14 hl (Nat.le_of_ble_eq_true rfl) rfl (fun ls hl => ?_)
  refine lv_iconst (v := (1 : Int32)) hx hb dL_minusMonths_16 qi_1 ?_
  exact we_h hx hb hr hk (P_old hP ho) hD hS1 (Nat.le_of_ble_eq_true rfl) (Nat.le_of_ble_eq_true rfl) dL_minusMonths_17

set_option maxRecDepth 100000 in
set_option maxHeartbeats 4000000 in
theorem hG_minusMonths (l : Launch) (hl9 : l.stackTraces = false) (G : GT) (a : Nat → Nat) (o : Nat) (n : Int64) (sv : Value) (S : SX) (p0 : Int32) (p1 : Int32) (h0 : vp_in p0 6) : HE l G yL_minusMonths cL_minusMonths 5 [(0, 11, 14, 25)] 10 0 0 [.ref (a 0), .int p0, .int p1, .ref o] (wH G a o n sv S) (wH G a o ((gX0_minusMonths S p0 p1).1.toInt64) sv ((gX0_minusMonths S p0 p1).2)) (0 : Int32) := by
  refine HE.ofW (own := RL) rfl pnN_RL (Nat.le_of_ble_eq_true rfl) ?_
  intro p e s m below meth c A C hr hk hT hN hE hP hD hA hAB hS ls hl
  have hx := C.1
  have hb := C.2.1
  have hown := C.2.2.2.1
  have hw := C.2.2.2.2
  have hl : lv_has ls 5 [(0, .ref (a 0)), (1, .int p0), (2, .int p1), (3, .ref o)] := hl
  have hPX : va_P (gD G) vwCl (wX G a S) s.heap := P_tail hP
  refine lv_aload_n hx hb dL_minusMonths_0 rfl (lv_at hl 3 rfl) ?_
  refine lv_aload_n hx hb dL_minusMonths_1 rfl (lv_at hl 0 rfl) ?_
  refine lv_iload_n hx hb dL_minusMonths_2 rfl (lv_at hl 1 rfl) ?_
  refine lv_iload_n hx hb dL_minusMonths_3 rfl (lv_at hl 2 rfl) ?_
  refine wcV1 (as := [.int p0, .int p1]) (rest := [.ref o]) (cl := RX0) C (c_X0_minusMonths l G a S p0 p1 h0) F_X0_minusMonths rfl bw615 bw616 bw617 hE hP hD hS hA hAB (rv2 hE.K hPX (q0 := 0) rfl) hl.1 dL_minusMonths_4 ⟨Nat.le_of_ble_eq_true rfl, Nat.le_of_ble_eq_true rfl⟩ rfl (Nat.le_of_ble_eq_true rfl) ⟨Nat.le_of_ble_eq_true rfl, Nat.le_of_ble_eq_true rfl⟩ (fun H locs hP hD hS => ?_)
  refine lv_i2l (v := (((gX0_minusMonths S p0 p1).1).toInt64)) hx hb dL_minusMonths_7 (by first | rfl | decide) ?_
  refine va_putN (D := gD G) (cl := vwCl) (tys := gT G) (ci := 3) (v := .long (((gX0_minusMonths S p0 p1).1).toInt64)) (ty := .long) (C := RX1) (T := TX1) (N := 2) hx hb hw inB_X1 tyX1 tyX1_ok nmX1 hown hE.K hP hD hS 0 rfl rfl 0 (by decide) (va_Nw.use rfl hN.2.1) (fun _ h9 => h9) rfl (by decide +kernel) rfl rfl (Nat.le_of_ble_eq_true rfl) dL_minusMonths_8 (fun H locs hP hD hS => ?_)
  refine lv_goto (tgt := 18) hx hb dL_minusMonths_11 (by decide) ?_
  refine lv_iconst (v := (0 : Int32)) hx hb dL_minusMonths_18 qi_0 ?_
  exact we_h hx hb hr hk hP hD hS (Nat.le_of_ble_eq_true rfl) (Nat.le_of_ble_eq_true rfl) dL_minusMonths_19

set_option maxRecDepth 100000 in
set_option maxHeartbeats 4000000 in
theorem hI_plusWeeks (l : Launch) (hl9 : l.stackTraces = false) (G : GT) (a : Nat → Nat) (o : Nat) (n : Int64) (sv : Value) (S : SX) (p0 : Int32) (p1 : Int32) (hbad : ¬ (vp_in p0 6)) : HE l G yL_plusWeeks cL_plusWeeks 5 [(0, 11, 14, 25)] 10 1 6 [.ref (a 0), .int p0, .int p1, .ref o] (wH G a o n sv S) (wH G a o n sv S) (1 : Int32) := by
  refine HE.ofW (own := RL) rfl pnN_RL (Nat.le_of_ble_eq_true rfl) ?_
  intro p e s m below meth c A C hr hk hT hN hE hP hD hA hAB hS ls hl
  have hx := C.1
  have hb := C.2.1
  have hown := C.2.2.2.1
  have hw := C.2.2.2.2
  have hl : lv_has ls 5 [(0, .ref (a 0)), (1, .int p0), (2, .int p1), (3, .ref o)] := hl
  have hPX : va_P (gD G) vwCl (wX G a S) s.heap := P_tail hP
  refine lv_aload_n hx hb dL_plusWeeks_0 rfl (lv_at hl 3 rfl) ?_
  refine lv_aload_n hx hb dL_plusWeeks_1 rfl (lv_at hl 0 rfl) ?_
  refine lv_iload_n hx hb dL_plusWeeks_2 rfl (lv_at hl 1 rfl) ?_
  refine lv_iload_n hx hb dL_plusWeeks_3 rfl (lv_at hl 2 rfl) ?_
  refine thV (as := [.int p0, .int p1]) (rest := [.ref o]) (cl := RX0) C (tI_X0_plusWeeks l hl9 G a p0 p1 hbad) F_X0_plusWeeks rfl bw564 bw565 bw566 hE hS hA (rv2 hE.K hPX (q0 := 0) rfl) hl.1 dL_plusWeeks_4 ⟨Nat.le_of_ble_eq_true rfl, Nat.le_of_ble_eq_true rfl⟩ rfl (Nat.le_of_ble_eq_true rfl) ⟨Nat.le_of_ble_eq_true rfl, Nat.le_of_ble_eq_true rfl⟩ (fun q9 ce H1 locs1 hz ho hS1 hce hcv hcl => ?_)
  refine vx_catch hown [] ⟨0, 11, 14, 25⟩ [] (hT.trans rfl) (fun z hz => nomatch hz) (by decide) (by decide) (hw _ bw382) (castXX (hw _ bw391)) hce hcv hcl ?_
  refine lv_astore (lv' := [(4, .ref q9), (0, .ref (a 0)), (1, .int p0), (2, .int p1), (3, .ref o)]) hx hb dL_plusWeeks_14 hl (Nat.le_of_ble_eq_true rfl) rfl (fun ls hl => ?_)
  refine lv_iconst (v := (1 : Int32)) hx hb dL_plusWeeks_16 qi_1 ?_
  exact we_h hx hb hr hk (P_old hP ho) hD hS1 (Nat.le_of_ble_eq_true rfl) (Nat.le_of_ble_eq_true rfl) dL_plusWeeks_17

set_option maxRecDepth 100000 in
set_option maxHeartbeats 4000000 in
theorem hG_plusWeeks (l : Launch) (hl9 : l.stackTraces = false) (G : GT) (a : Nat → Nat) (o : Nat) (n : Int64) (sv : Value) (S : SX) (p0 : Int32) (p1 : Int32) (h0 : vp_in p0 6) : HE l G yL_plusWeeks cL_plusWeeks 5 [(0, 11, 14, 25)] 10 0 0 [.ref (a 0), .int p0, .int p1, .ref o] (wH G a o n sv S) (wH G a o ((gX0_plusWeeks S p0 p1).1.toInt64) sv ((gX0_plusWeeks S p0 p1).2)) (0 : Int32) := by
  refine HE.ofW (own := RL) rfl pnN_RL (Nat.le_of_ble_eq_true rfl) ?_
  intro p e s m below meth c A C hr hk hT hN hE hP hD hA hAB hS ls hl
  have hx := C.1
  have hb := C.2.1
  have hown := C.2.2.2.1
  have hw := C.2.2.2.2
  have hl : lv_has ls 5 [(0, .ref (a 0)), (1, .int p0), (2, .int p1), (3, .ref o)] := hl
  have hPX : va_P (gD G) vwCl (wX G a S) s.heap := P_tail hP
  refine lv_aload_n hx hb dL_plusWeeks_0 rfl (lv_at hl 3 rfl) ?_
  refine lv_aload_n hx hb dL_plusWeeks_1 rfl (lv_at hl 0 rfl) ?_
  refine lv_iload_n hx hb dL_plusWeeks_2 rfl (lv_at hl 1 rfl) ?_
  refine lv_iload_n hx hb dL_plusWeeks_3 rfl (lv_at hl 2 rfl) ?_
  refine wcV1 (as := [.int p0, .int p1]) (rest := [.ref o]) (cl := RX0) C (c_X0_plusWeeks l G a S p0 p1 h0) F_X0_plusWeeks rfl bw564 bw565 bw566 hE hP hD hS hA hAB (rv2 hE.K hPX (q0 := 0) rfl) hl.1 dL_plusWeeks_4 ⟨Nat.le_of_ble_eq_true rfl, Nat.le_of_ble_eq_true rfl⟩ rfl (Nat.le_of_ble_eq_true rfl) ⟨Nat.le_of_ble_eq_true rfl, Nat.le_of_ble_eq_true rfl⟩ (fun H locs hP hD hS => ?_)
  refine lv_i2l (v := (((gX0_plusWeeks S p0 p1).1).toInt64)) hx hb dL_plusWeeks_7 (by first | rfl | decide) ?_
  refine va_putN (D := gD G) (cl := vwCl) (tys := gT G) (ci := 3) (v := .long (((gX0_plusWeeks S p0 p1).1).toInt64)) (ty := .long) (C := RX1) (T := TX1) (N := 2) hx hb hw inB_X1 tyX1 tyX1_ok nmX1 hown hE.K hP hD hS 0 rfl rfl 0 (by decide) (va_Nw.use rfl hN.2.1) (fun _ h9 => h9) rfl (by decide +kernel) rfl rfl (Nat.le_of_ble_eq_true rfl) dL_plusWeeks_8 (fun H locs hP hD hS => ?_)
  refine lv_goto (tgt := 18) hx hb dL_plusWeeks_11 (by decide) ?_
  refine lv_iconst (v := (0 : Int32)) hx hb dL_plusWeeks_18 qi_0 ?_
  exact we_h hx hb hr hk hP hD hS (Nat.le_of_ble_eq_true rfl) (Nat.le_of_ble_eq_true rfl) dL_plusWeeks_19

set_option maxRecDepth 100000 in
set_option maxHeartbeats 4000000 in
theorem hI_minusWeeks (l : Launch) (hl9 : l.stackTraces = false) (G : GT) (a : Nat → Nat) (o : Nat) (n : Int64) (sv : Value) (S : SX) (p0 : Int32) (p1 : Int32) (hbad : ¬ (vp_in p0 6)) : HE l G yL_minusWeeks cL_minusWeeks 5 [(0, 11, 14, 25)] 10 1 6 [.ref (a 0), .int p0, .int p1, .ref o] (wH G a o n sv S) (wH G a o n sv S) (1 : Int32) := by
  refine HE.ofW (own := RL) rfl pnN_RL (Nat.le_of_ble_eq_true rfl) ?_
  intro p e s m below meth c A C hr hk hT hN hE hP hD hA hAB hS ls hl
  have hx := C.1
  have hb := C.2.1
  have hown := C.2.2.2.1
  have hw := C.2.2.2.2
  have hl : lv_has ls 5 [(0, .ref (a 0)), (1, .int p0), (2, .int p1), (3, .ref o)] := hl
  have hPX : va_P (gD G) vwCl (wX G a S) s.heap := P_tail hP
  refine lv_aload_n hx hb dL_minusWeeks_0 rfl (lv_at hl 3 rfl) ?_
  refine lv_aload_n hx hb dL_minusWeeks_1 rfl (lv_at hl 0 rfl) ?_
  refine lv_iload_n hx hb dL_minusWeeks_2 rfl (lv_at hl 1 rfl) ?_
  refine lv_iload_n hx hb dL_minusWeeks_3 rfl (lv_at hl 2 rfl) ?_
  refine thV (as := [.int p0, .int p1]) (rest := [.ref o]) (cl := RX0) C (tI_X0_minusWeeks l hl9 G a p0 p1 hbad) F_X0_minusWeeks rfl bw622 bw623 bw624 hE hS hA (rv2 hE.K hPX (q0 := 0) rfl) hl.1 dL_minusWeeks_4 ⟨Nat.le_of_ble_eq_true rfl, Nat.le_of_ble_eq_true rfl⟩ rfl (Nat.le_of_ble_eq_true rfl) ⟨Nat.le_of_ble_eq_true rfl, Nat.le_of_ble_eq_true rfl⟩ (fun q9 ce H1 locs1 hz ho hS1 hce hcv hcl => ?_)
  refine vx_catch hown [] ⟨0, 11, 14, 25⟩ [] (hT.trans rfl) (fun z hz => nomatch hz) (by decide) (by decide) (hw _ bw382) (castXX (hw _ bw391)) hce hcv hcl ?_
  refine lv_astore (lv' := [(4, .ref q9), (0, .ref (a 0)), (1, .int p0), (2, .int p1), (3, .ref o)]) hx hb dL_minusWeeks_14 hl (Nat.le_of_ble_eq_true rfl) rfl (fun ls hl => ?_)
  refine lv_iconst (v := (1 : Int32)) hx hb dL_minusWeeks_16 qi_1 ?_
  exact we_h hx hb hr hk (P_old hP ho) hD hS1 (Nat.le_of_ble_eq_true rfl) (Nat.le_of_ble_eq_true rfl) dL_minusWeeks_17

set_option maxRecDepth 100000 in
set_option maxHeartbeats 4000000 in
theorem hG_minusWeeks (l : Launch) (hl9 : l.stackTraces = false) (G : GT) (a : Nat → Nat) (o : Nat) (n : Int64) (sv : Value) (S : SX) (p0 : Int32) (p1 : Int32) (h0 : vp_in p0 6) : HE l G yL_minusWeeks cL_minusWeeks 5 [(0, 11, 14, 25)] 10 0 0 [.ref (a 0), .int p0, .int p1, .ref o] (wH G a o n sv S) (wH G a o ((gX0_minusWeeks S p0 p1).1.toInt64) sv ((gX0_minusWeeks S p0 p1).2)) (0 : Int32) := by
  refine HE.ofW (own := RL) rfl pnN_RL (Nat.le_of_ble_eq_true rfl) ?_
  intro p e s m below meth c A C hr hk hT hN hE hP hD hA hAB hS ls hl
  have hx := C.1
  have hb := C.2.1
  have hown := C.2.2.2.1
  have hw := C.2.2.2.2
  have hl : lv_has ls 5 [(0, .ref (a 0)), (1, .int p0), (2, .int p1), (3, .ref o)] := hl
  have hPX : va_P (gD G) vwCl (wX G a S) s.heap := P_tail hP
  refine lv_aload_n hx hb dL_minusWeeks_0 rfl (lv_at hl 3 rfl) ?_
  refine lv_aload_n hx hb dL_minusWeeks_1 rfl (lv_at hl 0 rfl) ?_
  refine lv_iload_n hx hb dL_minusWeeks_2 rfl (lv_at hl 1 rfl) ?_
  refine lv_iload_n hx hb dL_minusWeeks_3 rfl (lv_at hl 2 rfl) ?_
  refine wcV1 (as := [.int p0, .int p1]) (rest := [.ref o]) (cl := RX0) C (c_X0_minusWeeks l G a S p0 p1 h0) F_X0_minusWeeks rfl bw622 bw623 bw624 hE hP hD hS hA hAB (rv2 hE.K hPX (q0 := 0) rfl) hl.1 dL_minusWeeks_4 ⟨Nat.le_of_ble_eq_true rfl, Nat.le_of_ble_eq_true rfl⟩ rfl (Nat.le_of_ble_eq_true rfl) ⟨Nat.le_of_ble_eq_true rfl, Nat.le_of_ble_eq_true rfl⟩ (fun H locs hP hD hS => ?_)
  refine lv_i2l (v := (((gX0_minusWeeks S p0 p1).1).toInt64)) hx hb dL_minusWeeks_7 (by first | rfl | decide) ?_
  refine va_putN (D := gD G) (cl := vwCl) (tys := gT G) (ci := 3) (v := .long (((gX0_minusWeeks S p0 p1).1).toInt64)) (ty := .long) (C := RX1) (T := TX1) (N := 2) hx hb hw inB_X1 tyX1 tyX1_ok nmX1 hown hE.K hP hD hS 0 rfl rfl 0 (by decide) (va_Nw.use rfl hN.2.1) (fun _ h9 => h9) rfl (by decide +kernel) rfl rfl (Nat.le_of_ble_eq_true rfl) dL_minusWeeks_8 (fun H locs hP hD hS => ?_)
  refine lv_goto (tgt := 18) hx hb dL_minusWeeks_11 (by decide) ?_
  refine lv_iconst (v := (0 : Int32)) hx hb dL_minusWeeks_18 qi_0 ?_
  exact we_h hx hb hr hk hP hD hS (Nat.le_of_ble_eq_true rfl) (Nat.le_of_ble_eq_true rfl) dL_minusWeeks_19

set_option maxRecDepth 100000 in
set_option maxHeartbeats 4000000 in
theorem hI_plusDays (l : Launch) (hl9 : l.stackTraces = false) (G : GT) (a : Nat → Nat) (o : Nat) (n : Int64) (sv : Value) (S : SX) (p0 : Int32) (p1 : Int32) (hbad : ¬ (vp_in p0 6)) : HE l G yL_plusDays cL_plusDays 5 [(0, 11, 14, 25)] 10 1 6 [.ref (a 0), .int p0, .int p1, .ref o] (wH G a o n sv S) (wH G a o n sv S) (1 : Int32) := by
  refine HE.ofW (own := RL) rfl pnN_RL (Nat.le_of_ble_eq_true rfl) ?_
  intro p e s m below meth c A C hr hk hT hN hE hP hD hA hAB hS ls hl
  have hx := C.1
  have hb := C.2.1
  have hown := C.2.2.2.1
  have hw := C.2.2.2.2
  have hl : lv_has ls 5 [(0, .ref (a 0)), (1, .int p0), (2, .int p1), (3, .ref o)] := hl
  have hPX : va_P (gD G) vwCl (wX G a S) s.heap := P_tail hP
  refine lv_aload_n hx hb dL_plusDays_0 rfl (lv_at hl 3 rfl) ?_
  refine lv_aload_n hx hb dL_plusDays_1 rfl (lv_at hl 0 rfl) ?_
  refine lv_iload_n hx hb dL_plusDays_2 rfl (lv_at hl 1 rfl) ?_
  refine lv_iload_n hx hb dL_plusDays_3 rfl (lv_at hl 2 rfl) ?_
  refine thV (as := [.int p0, .int p1]) (rest := [.ref o]) (cl := RX0) C (tI_X0_plusDays l hl9 G a p0 p1 hbad) F_X0_plusDays rfl bw579 bw580 bw581 hE hS hA (rv2 hE.K hPX (q0 := 0) rfl) hl.1 dL_plusDays_4 ⟨Nat.le_of_ble_eq_true rfl, Nat.le_of_ble_eq_true rfl⟩ rfl (Nat.le_of_ble_eq_true rfl) ⟨Nat.le_of_ble_eq_true rfl, Nat.le_of_ble_eq_true rfl⟩ (fun q9 ce H1 locs1 hz ho hS1 hce hcv hcl => ?_)
  refine vx_catch hown [] ⟨0, 11, 14, 25⟩ [] (hT.trans rfl) (fun z hz => nomatch hz) (by decide) (by decide) (hw _ bw382) (castXX (hw _ bw391)) hce hcv hcl ?_
  refine lv_astore (lv' := [(4, .ref q9), (0, .ref (a 0)), (1, .int p0), (2, .int p1), (3, .ref o)]) hx hb dL_plusDays_14 hl (Nat.le_of_ble_eq_true rfl) rfl (fun ls hl => ?_)
  refine lv_iconst (v := (1 : Int32)) hx hb dL_plusDays_16 qi_1 ?_
  exact we_h hx hb hr hk (P_old hP ho) hD hS1 (Nat.le_of_ble_eq_true rfl) (Nat.le_of_ble_eq_true rfl) dL_plusDays_17

set_option maxRecDepth 100000 in
set_option maxHeartbeats 4000000 in
theorem hG_plusDays (l : Launch) (hl9 : l.stackTraces = false) (G : GT) (a : Nat → Nat) (o : Nat) (n : Int64) (sv : Value) (S : SX) (p0 : Int32) (p1 : Int32) (h0 : vp_in p0 6) : HE l G yL_plusDays cL_plusDays 5 [(0, 11, 14, 25)] 10 0 0 [.ref (a 0), .int p0, .int p1, .ref o] (wH G a o n sv S) (wH G a o ((gX0_plusDays S p0 p1).1.toInt64) sv ((gX0_plusDays S p0 p1).2)) (0 : Int32) := by
  refine HE.ofW (own := RL) rfl pnN_RL (Nat.le_of_ble_eq_true rfl) ?_
  intro p e s m below meth c A C hr hk hT hN hE hP hD hA hAB hS ls hl
  have hx := C.1
  have hb := C.2.1
  have hown := C.2.2.2.1
  have hw := C.2.2.2.2
  have hl : lv_has ls 5 [(0, .ref (a 0)), (1, .int p0), (2, .int p1), (3, .ref o)] := hl
  have hPX : va_P (gD G) vwCl (wX G a S) s.heap := P_tail hP
  refine lv_aload_n hx hb dL_plusDays_0 rfl (lv_at hl 3 rfl) ?_
  refine lv_aload_n hx hb dL_plusDays_1 rfl (lv_at hl 0 rfl) ?_
  refine lv_iload_n hx hb dL_plusDays_2 rfl (lv_at hl 1 rfl) ?_
  refine lv_iload_n hx hb dL_plusDays_3 rfl (lv_at hl 2 rfl) ?_
  refine wcV1 (as := [.int p0, .int p1]) (rest := [.ref o]) (cl := RX0) C (c_X0_plusDays l G a S p0 p1 h0) F_X0_plusDays rfl bw579 bw580 bw581 hE hP hD hS hA hAB (rv2 hE.K hPX (q0 := 0) rfl) hl.1 dL_plusDays_4 ⟨Nat.le_of_ble_eq_true rfl, Nat.le_of_ble_eq_true rfl⟩ rfl (Nat.le_of_ble_eq_true rfl) ⟨Nat.le_of_ble_eq_true rfl, Nat.le_of_ble_eq_true rfl⟩ (fun H locs hP hD hS => ?_)
  refine lv_i2l (v := (((gX0_plusDays S p0 p1).1).toInt64)) hx hb dL_plusDays_7 (by first | rfl | decide) ?_
  refine va_putN (D := gD G) (cl := vwCl) (tys := gT G) (ci := 3) (v := .long (((gX0_plusDays S p0 p1).1).toInt64)) (ty := .long) (C := RX1) (T := TX1) (N := 2) hx hb hw inB_X1 tyX1 tyX1_ok nmX1 hown hE.K hP hD hS 0 rfl rfl 0 (by decide) (va_Nw.use rfl hN.2.1) (fun _ h9 => h9) rfl (by decide +kernel) rfl rfl (Nat.le_of_ble_eq_true rfl) dL_plusDays_8 (fun H locs hP hD hS => ?_)
  refine lv_goto (tgt := 18) hx hb dL_plusDays_11 (by decide) ?_
  refine lv_iconst (v := (0 : Int32)) hx hb dL_plusDays_18 qi_0 ?_
  exact we_h hx hb hr hk hP hD hS (Nat.le_of_ble_eq_true rfl) (Nat.le_of_ble_eq_true rfl) dL_plusDays_19

set_option maxRecDepth 100000 in
set_option maxHeartbeats 4000000 in
theorem hI_minusDays (l : Launch) (hl9 : l.stackTraces = false) (G : GT) (a : Nat → Nat) (o : Nat) (n : Int64) (sv : Value) (S : SX) (p0 : Int32) (p1 : Int32) (hbad : ¬ (vp_in p0 6)) : HE l G yL_minusDays cL_minusDays 5 [(0, 11, 14, 25)] 10 1 6 [.ref (a 0), .int p0, .int p1, .ref o] (wH G a o n sv S) (wH G a o n sv S) (1 : Int32) := by
  refine HE.ofW (own := RL) rfl pnN_RL (Nat.le_of_ble_eq_true rfl) ?_
  intro p e s m below meth c A C hr hk hT hN hE hP hD hA hAB hS ls hl
  have hx := C.1
  have hb := C.2.1
  have hown := C.2.2.2.1
  have hw := C.2.2.2.2
  have hl : lv_has ls 5 [(0, .ref (a 0)), (1, .int p0), (2, .int p1), (3, .ref o)] := hl
  have hPX : va_P (gD G) vwCl (wX G a S) s.heap := P_tail hP
  refine lv_aload_n hx hb dL_minusDays_0 rfl (lv_at hl 3 rfl) ?_
  refine lv_aload_n hx hb dL_minusDays_1 rfl (lv_at hl 0 rfl) ?_
  refine lv_iload_n hx hb dL_minusDays_2 rfl (lv_at hl 1 rfl) ?_
  refine lv_iload_n hx hb dL_minusDays_3 rfl (lv_at hl 2 rfl) ?_
  refine thV (as := [.int p0, .int p1]) (rest := [.ref o]) (cl := RX0) C (tI_X0_minusDays l hl9 G a p0 p1 hbad) F_X0_minusDays rfl bw629 bw630 bw631 hE hS hA (rv2 hE.K hPX (q0 := 0) rfl) hl.1 dL_minusDays_4 ⟨Nat.le_of_ble_eq_true rfl, Nat.le_of_ble_eq_true rfl⟩ rfl (Nat.le_of_ble_eq_true rfl) ⟨Nat.le_of_ble_eq_true rfl, Nat.le_of_ble_eq_true rfl⟩ (fun q9 ce H1 locs1 hz ho hS1 hce hcv hcl => ?_)
  refine vx_catch hown [] ⟨0, 11, 14, 25⟩ [] (hT.trans rfl) (fun z hz => nomatch hz) (by decide) (by decide) (hw _ bw382) (castXX (hw _ bw391)) hce hcv hcl ?_
  refine lv_astore (lv' := [(4, .ref q9), (0, .ref (a 0)), (1, .int p0), (2, .int p1), (3, .ref o)]) hx hb dL_minusDays_14 hl (Nat.le_of_ble_eq_true rfl) rfl (fun ls hl => ?_)
  refine lv_iconst (v := (1 : Int32)) hx hb dL_minusDays_16 qi_1 ?_
  exact we_h hx hb hr hk (P_old hP ho) hD hS1 (Nat.le_of_ble_eq_true rfl) (Nat.le_of_ble_eq_true rfl) dL_minusDays_17

set_option maxRecDepth 100000 in
set_option maxHeartbeats 4000000 in
theorem hG_minusDays (l : Launch) (hl9 : l.stackTraces = false) (G : GT) (a : Nat → Nat) (o : Nat) (n : Int64) (sv : Value) (S : SX) (p0 : Int32) (p1 : Int32) (h0 : vp_in p0 6) : HE l G yL_minusDays cL_minusDays 5 [(0, 11, 14, 25)] 10 0 0 [.ref (a 0), .int p0, .int p1, .ref o] (wH G a o n sv S) (wH G a o ((gX0_minusDays S p0 p1).1.toInt64) sv ((gX0_minusDays S p0 p1).2)) (0 : Int32) := by
  refine HE.ofW (own := RL) rfl pnN_RL (Nat.le_of_ble_eq_true rfl) ?_
  intro p e s m below meth c A C hr hk hT hN hE hP hD hA hAB hS ls hl
  have hx := C.1
  have hb := C.2.1
  have hown := C.2.2.2.1
  have hw := C.2.2.2.2
  have hl : lv_has ls 5 [(0, .ref (a 0)), (1, .int p0), (2, .int p1), (3, .ref o)] := hl
  have hPX : va_P (gD G) vwCl (wX G a S) s.heap := P_tail hP
  refine lv_aload_n hx hb dL_minusDays_0 rfl (lv_at hl 3 rfl) ?_
  refine lv_aload_n hx hb dL_minusDays_1 rfl (lv_at hl 0 rfl) ?_
  refine lv_iload_n hx hb dL_minusDays_2 rfl (lv_at hl 1 rfl) ?_
  refine lv_iload_n hx hb dL_minusDays_3 rfl (lv_at hl 2 rfl) ?_
  refine wcV1 (as := [.int p0, .int p1]) (rest := [.ref o]) (cl := RX0) C (c_X0_minusDays l G a S p0 p1 h0) F_X0_minusDays rfl bw629 bw630 bw631 hE hP hD hS hA hAB (rv2 hE.K hPX (q0 := 0) rfl) hl.1 dL_minusDays_4 ⟨Nat.le_of_ble_eq_true rfl, Nat.le_of_ble_eq_true rfl⟩ rfl (Nat.le_of_ble_eq_true rfl) ⟨Nat.le_of_ble_eq_true rfl, Nat.le_of_ble_eq_true rfl⟩ (fun H locs hP hD hS => ?_)
  refine lv_i2l (v := (((gX0_minusDays S p0 p1).1).toInt64)) hx hb dL_minusDays_7 (by first | rfl | decide) ?_
  refine va_putN (D := gD G) (cl := vwCl) (tys := gT G) (ci := 3) (v := .long (((gX0_minusDays S p0 p1).1).toInt64)) (ty := .long) (C := RX1) (T := TX1) (N := 2) hx hb hw inB_X1 tyX1 tyX1_ok nmX1 hown hE.K hP hD hS 0 rfl rfl 0 (by decide) (va_Nw.use rfl hN.2.1) (fun _ h9 => h9) rfl (by decide +kernel) rfl rfl (Nat.le_of_ble_eq_true rfl) dL_minusDays_8 (fun H locs hP hD hS => ?_)
  refine lv_goto (tgt := 18) hx hb dL_minusDays_11 (by decide) ?_
  refine lv_iconst (v := (0 : Int32)) hx hb dL_minusDays_18 qi_0 ?_
  exact we_h hx hb hr hk hP hD hS (Nat.le_of_ble_eq_true rfl) (Nat.le_of_ble_eq_true rfl) dL_minusDays_19

set_option maxRecDepth 100000 in
set_option maxHeartbeats 4000000 in
theorem hI_plusHours (l : Launch) (hl9 : l.stackTraces = false) (G : GT) (a : Nat → Nat) (o : Nat) (n : Int64) (sv : Value) (S : SX) (p0 : Int32) (p1 : Int32) (hbad : ¬ (vp_in p0 6)) : HE l G yL_plusHours cL_plusHours 5 [(0, 11, 14, 25)] 10 1 6 [.ref (a 0), .int p0, .int p1, .ref o] (wH G a o n sv S) (wH G a o n sv S) (1 : Int32) := by
  refine HE.ofW (own := RL) rfl pnN_RL (Nat.le_of_ble_eq_true rfl) ?_
  intro p e s m below meth c A C hr hk hT hN hE hP hD hA hAB hS ls hl
  have hx := C.1
  have hb := C.2.1
  have hown := C.2.2.2.1
  have hw := C.2.2.2.2
  have hl : lv_has ls 5 [(0, .ref (a 0)), (1, .int p0), (2, .int p1), (3, .ref o)] := hl
  have hPX : va_P (gD G) vwCl (wX G a S) s.heap := P_tail hP
  refine lv_aload_n hx hb dL_plusHours_0 rfl (lv_at hl 3 rfl) ?_
  refine lv_aload_n hx hb dL_plusHours_1 rfl (lv_at hl 0 rfl) ?_
  refine lv_iload_n hx hb dL_plusHours_2 rfl (lv_at hl 1 rfl) ?_
  refine lv_iload_n hx hb dL_plusHours_3 rfl (lv_at hl 2 rfl) ?_
  refine thV (as := [.int p0, .int p1]) (rest := [.ref o]) (cl := RX0) C (tI_X0_plusHours l hl9 G a p0 p1 hbad) F_X0_plusHours rfl bw586 bw587 bw588 hE hS hA (rv2 hE.K hPX (q0 := 0) rfl) hl.1 dL_plusHours_4 ⟨Nat.le_of_ble_eq_true rfl, Nat.le_of_ble_eq_true rfl⟩ rfl (Nat.le_of_ble_eq_true rfl) ⟨Nat.le_of_ble_eq_true rfl, Nat.le_of_ble_eq_true rfl⟩ (fun q9 ce H1 locs1 hz ho hS1 hce hcv hcl => ?_)
  refine vx_catch hown [] ⟨0, 11, 14, 25⟩ [] (hT.trans rfl) (fun z hz => nomatch hz) (by decide) (by decide) (hw _ bw382) (castXX (hw _ bw391)) hce hcv hcl ?_
  refine lv_astore (lv' := [(4, .ref q9), (0, .ref (a 0)), (1, .int p0), (2, .int p1), (3, .ref o)]) hx hb dL_plusHours_14 hl (Nat.le_of_ble_eq_true rfl) rfl (fun ls hl => ?_)
  refine lv_iconst (v := (1 : Int32)) hx hb dL_plusHours_16 qi_1 ?_
  exact we_h hx hb hr hk (P_old hP ho) hD hS1 (Nat.le_of_ble_eq_true rfl) (Nat.le_of_ble_eq_true rfl) dL_plusHours_17

set_option maxRecDepth 100000 in
set_option maxHeartbeats 4000000 in
theorem hG_plusHours (l : Launch) (hl9 : l.stackTraces = false) (G : GT) (a : Nat → Nat) (o : Nat) (n : Int64) (sv : Value) (S : SX) (p0 : Int32) (p1 : Int32) (h0 : vp_in p0 6) : HE l G yL_plusHours cL_plusHours 5 [(0, 11, 14, 25)] 10 0 0 [.ref (a 0), .int p0, .int p1, .ref o] (wH G a o n sv S) (wH G a o ((gX0_plusHours S p0 p1).1.toInt64) sv ((gX0_plusHours S p0 p1).2)) (0 : Int32) := by
  refine HE.ofW (own := RL) rfl pnN_RL (Nat.le_of_ble_eq_true rfl) ?_
  intro p e s m below meth c A C hr hk hT hN hE hP hD hA hAB hS ls hl
  have hx := C.1
  have hb := C.2.1
  have hown := C.2.2.2.1
  have hw := C.2.2.2.2
  have hl : lv_has ls 5 [(0, .ref (a 0)), (1, .int p0), (2, .int p1), (3, .ref o)] := hl
  have hPX : va_P (gD G) vwCl (wX G a S) s.heap := P_tail hP
  refine lv_aload_n hx hb dL_plusHours_0 rfl (lv_at hl 3 rfl) ?_
  refine lv_aload_n hx hb dL_plusHours_1 rfl (lv_at hl 0 rfl) ?_
  refine lv_iload_n hx hb dL_plusHours_2 rfl (lv_at hl 1 rfl) ?_
  refine lv_iload_n hx hb dL_plusHours_3 rfl (lv_at hl 2 rfl) ?_
  refine wcV1 (as := [.int p0, .int p1]) (rest := [.ref o]) (cl := RX0) C (c_X0_plusHours l G a S p0 p1 h0) F_X0_plusHours rfl bw586 bw587 bw588 hE hP hD hS hA hAB (rv2 hE.K hPX (q0 := 0) rfl) hl.1 dL_plusHours_4 ⟨Nat.le_of_ble_eq_true rfl, Nat.le_of_ble_eq_true rfl⟩ rfl (Nat.le_of_ble_eq_true rfl) ⟨Nat.le_of_ble_eq_true rfl, Nat.le_of_ble_eq_true rfl⟩ (fun H locs hP hD hS => ?_)
  refine lv_i2l (v := (((gX0_plusHours S p0 p1).1).toInt64)) hx hb dL_plusHours_7 (by first | rfl | decide) ?_
  refine va_putN (D := gD G) (cl := vwCl) (tys := gT G) (ci := 3) (v := .long (((gX0_plusHours S p0 p1).1).toInt64)) (ty := .long) (C := RX1) (T := TX1) (N := 2) hx hb hw inB_X1 tyX1 tyX1_ok nmX1 hown hE.K hP hD hS 0 rfl rfl 0 (by decide) (va_Nw.use rfl hN.2.1) (fun _ h9 => h9) rfl (by decide +kernel) rfl rfl (Nat.le_of_ble_eq_true rfl) dL_plusHours_8 (fun H locs hP hD hS => ?_)
  refine lv_goto (tgt := 18) hx hb dL_plusHours_11 (by decide) ?_
  refine lv_iconst (v := (0 : Int32)) hx hb dL_plusHours_18 qi_0 ?_
  exact we_h hx hb hr hk hP hD hS (Nat.le_of_ble_eq_true rfl) (Nat.le_of_ble_eq_true rfl) dL_plusHours_19

set_option maxRecDepth 100000 in
set_option maxHeartbeats 4000000 in
theorem hI_minusHours (l : Launch) (hl9 : l.stackTraces = false) (G : GT) (a : Nat → Nat) (o : Nat) (n : Int64) (sv : Value) (S : SX) (p0 : Int32) (p1 : Int32) (hbad : ¬ (vp_in p0 6)) : HE l G yL_minusHours cL_minusHours 5 [(0, 11, 14, 25)] 10 1 6 [.ref (a 0), .int p0, .int p1, .ref o] (wH G a o n sv S) (wH G a o n sv S) (1 : Int32) := by
  refine HE.ofW (own := RL) rfl pnN_RL (Nat.le_of_ble_eq_true rfl) ?_
  intro p e s m below meth c A C hr hk hT hN hE hP hD hA hAB hS ls hl
  have hx := C.1
  have hb := C.2.1
  have hown := C.2.2.2.1
  have hw := C.2.2.2.2
  have hl : lv_has ls 5 [(0, .ref (a 0)), (1, .int p0), (2, .int p1), (3, .ref o)] := hl
  have hPX : va_P (gD G) vwCl (wX G a S) s.heap := P_tail hP
  refine lv_aload_n hx hb dL_minusHours_0 rfl (lv_at hl 3 rfl) ?_
  refine lv_aload_n hx hb dL_minusHours_1 rfl (lv_at hl 0 rfl) ?_
  refine lv_iload_n hx hb dL_minusHours_2 rfl (lv_at hl 1 rfl) ?_
  refine lv_iload_n hx hb dL_minusHours_3 rfl (lv_at hl 2 rfl) ?_
  refine thV (as := [.int p0, .int p1]) (rest := [.ref o]) (cl := RX0) C (tI_X0_minusHours l hl9 G a p0 p1 hbad) F_X0_minusHours rfl bw636 bw637 bw638 hE hS hA (rv2 hE.K hPX (q0 := 0) rfl) hl.1 dL_minusHours_4 ⟨Nat.le_of_ble_eq_true rfl, Nat.le_of_ble_eq_true rfl⟩ rfl (Nat.le_of_ble_eq_true rfl) ⟨Nat.le_of_ble_eq_true rfl, Nat.le_of_ble_eq_true rfl⟩ (fun q9 ce H1 locs1 hz ho hS1 hce hcv hcl => ?_)
  refine vx_catch hown [] ⟨0, 11, 14, 25⟩ [] (hT.trans rfl) (fun z hz => nomatch hz) (by decide) (by decide) (hw _ bw382) (castXX (hw _ bw391)) hce hcv hcl ?_
  refine lv_astore (lv' := [(4, .ref q9), (0, .ref (a 0)), (1, .int p0), (2, .int p1), (3, .ref o)]) hx hb dL_minusHours_14 hl (Nat.le_of_ble_eq_true rfl) rfl (fun ls hl => ?_)
  refine lv_iconst (v := (1 : Int32)) hx hb dL_minusHours_16 qi_1 ?_
  exact we_h hx hb hr hk (P_old hP ho) hD hS1 (Nat.le_of_ble_eq_true rfl) (Nat.le_of_ble_eq_true rfl) dL_minusHours_17

set_option maxRecDepth 100000 in
set_option maxHeartbeats 4000000 in
theorem hG_minusHours (l : Launch) (hl9 : l.stackTraces = false) (G : GT) (a : Nat → Nat) (o : Nat) (n : Int64) (sv : Value) (S : SX) (p0 : Int32) (p1 : Int32) (h0 : vp_in p0 6) : HE l G yL_minusHours cL_minusHours 5 [(0, 11, 14, 25)] 10 0 0 [.ref (a 0), .int p0, .int p1, .ref o] (wH G a o n sv S) (wH G a o ((gX0_minusHours S p0 p1).1.toInt64) sv ((gX0_minusHours S p0 p1).2)) (0 : Int32) := by
  refine HE.ofW (own := RL) rfl pnN_RL (Nat.le_of_ble_eq_true rfl) ?_
  intro p e s m below meth c A C hr hk hT hN hE hP hD hA hAB hS ls hl
  have hx := C.1
  have hb := C.2.1
  have hown := C.2.2.2.1
  have hw := C.2.2.2.2
  have hl : lv_has ls 5 [(0, .ref (a 0)), (1, .int p0), (2, .int p1), (3, .ref o)] := hl
  have hPX : va_P (gD G) vwCl (wX G a S) s.heap := P_tail hP
  refine lv_aload_n hx hb dL_minusHours_0 rfl (lv_at hl 3 rfl) ?_
  refine lv_aload_n hx hb dL_minusHours_1 rfl (lv_at hl 0 rfl) ?_
  refine lv_iload_n hx hb dL_minusHours_2 rfl (lv_at hl 1 rfl) ?_
  refine lv_iload_n hx hb dL_minusHours_3 rfl (lv_at hl 2 rfl) ?_
  refine wcV1 (as := [.int p0, .int p1]) (rest := [.ref o]) (cl := RX0) C (c_X0_minusHours l G a S p0 p1 h0) F_X0_minusHours rfl bw636 bw637 bw638 hE hP hD hS hA hAB (rv2 hE.K hPX (q0 := 0) rfl) hl.1 dL_minusHours_4 ⟨Nat.le_of_ble_eq_true rfl, Nat.le_of_ble_eq_true rfl⟩ rfl (Nat.le_of_ble_eq_true rfl) ⟨Nat.le_of_ble_eq_true rfl, Nat.le_of_ble_eq_true rfl⟩ (fun H locs hP hD hS => ?_)
  refine lv_i2l (v := (((gX0_minusHours S p0 p1).1).toInt64)) hx hb dL_minusHours_7 (by first | rfl | decide) ?_
  refine va_putN (D := gD G) (cl := vwCl) (tys := gT G) (ci := 3) (v := .long (((gX0_minusHours S p0 p1).1).toInt64)) (ty := .long) (C := RX1) (T := TX1) (N := 2) hx hb hw inB_X1 tyX1 tyX1_ok nmX1 hown hE.K hP hD hS 0 rfl rfl 0 (by decide) (va_Nw.use rfl hN.2.1) (fun _ h9 => h9) rfl (by decide +kernel) rfl rfl (Nat.le_of_ble_eq_true rfl) dL_minusHours_8 (fun H locs hP hD hS => ?_)
  refine lv_goto (tgt := 18) hx hb dL_minusHours_11 (by decide) ?_
  refine lv_iconst (v := (0 : Int32)) hx hb dL_minusHours_18 qi_0 ?_
  exact we_h hx hb hr hk hP hD hS (Nat.le_of_ble_eq_true rfl) (Nat.le_of_ble_eq_true rfl) dL_minusHours_19

set_option maxRecDepth 100000 in
set_option maxHeartbeats 4000000 in
theorem hI_plusMinutes (l : Launch) (hl9 : l.stackTraces = false) (G : GT) (a : Nat → Nat) (o : Nat) (n : Int64) (sv : Value) (S : SX) (p0 : Int32) (p1 : Int32) (hbad : ¬ (vp_in p0 6)) : HE l G yL_plusMinutes cL_plusMinutes 5 [(0, 11, 14, 25)] 10 1 6 [.ref (a 0), .int p0, .int p1, .ref o] (wH G a o n sv S) (wH G a o n sv S) (1 : Int32) := by
  refine HE.ofW (own := RL) rfl pnN_RL (Nat.le_of_ble_eq_true rfl) ?_
  intro p e s m below meth c A C hr hk hT hN hE hP hD hA hAB hS ls hl
  have hx := C.1
  have hb := C.2.1
  have hown := C.2.2.2.1
  have hw := C.2.2.2.2
  have hl : lv_has ls 5 [(0, .ref (a 0)), (1, .int p0), (2, .int p1), (3, .ref o)] := hl
  have hPX : va_P (gD G) vwCl (wX G a S) s.heap := P_tail hP
  refine lv_aload_n hx hb dL_plusMinutes_0 rfl (lv_at hl 3 rfl) ?_
  refine lv_aload_n hx hb dL_plusMinutes_1 rfl (lv_at hl 0 rfl) ?_
  refine lv_iload_n hx hb dL_plusMinutes_2 rfl (lv_at hl 1 rfl) ?_
  refine lv_iload_n hx hb dL_plusMinutes_3 rfl (lv_at hl 2 rfl) ?_
  refine thV (as := [.int p0, .int p1]) (rest := [.ref o]) (cl := RX0) C (tI_X0_plusMinutes l hl9 G a p0 p1 hbad) F_X0_plusMinutes rfl bw593 bw594 bw595 hE hS hA (rv2 hE.K hPX (q0 := 0) rfl) hl.1 dL_plusMinutes_4 ⟨Nat.le_of_ble_eq_true rfl, Nat.le_of_ble_eq_true rfl⟩ rfl (Nat.le_of_ble_eq_true rfl) ⟨Nat.le_of_ble_eq_true rfl, Nat.le_of_ble_eq_true rfl⟩ (fun q9 ce H1 locs1 hz ho hS1 hce hcv hcl => ?_)
  refine vx_catch hown [] ⟨0, 11, 14, 25⟩ [] (hT.trans rfl) (fun z hz => nomatch hz) (by decide) (by decide) (hw _ bw382) (castXX (hw _ bw391)) hce hcv hcl ?_
  refine lv_astore (lv' := [(4, .ref q9), (0, .ref (a 0)), (1, .int p0), (2, .int p1), (3, .ref o)]) hx hb dL_plusMinutes_14 hl (Nat.le_of_ble_eq_true rfl) rfl (fun ls hl => ?_)
  refine lv_iconst (v := (1 : Int32)) hx hb dL_plusMinutes_16 qi_1 ?_
  exact we_h hx hb hr hk (P_old hP ho) hD hS1 (Nat.le_of_ble_eq_true rfl) (Nat.le_of_ble_eq_true rfl) dL_plusMinutes_17

set_option maxRecDepth 100000 in
set_option maxHeartbeats 4000000 in
theorem hG_plusMinutes (l : Launch) (hl9 : l.stackTraces = false) (G : GT) (a : Nat → Nat) (o : Nat) (n : Int64) (sv : Value) (S : SX) (p0 : Int32) (p1 : Int32) (h0 : vp_in p0 6) : HE l G yL_plusMinutes cL_plusMinutes 5 [(0, 11, 14, 25)] 10 0 0 [.ref (a 0), .int p0, .int p1, .ref o] (wH G a o n sv S) (wH G a o ((gX0_plusMinutes S p0 p1).1.toInt64) sv ((gX0_plusMinutes S p0 p1).2)) (0 : Int32) := by
  refine HE.ofW (own := RL) rfl pnN_RL (Nat.le_of_ble_eq_true rfl) ?_
  intro p e s m below meth c A C hr hk hT hN hE hP hD hA hAB hS ls hl
  have hx := C.1
  have hb := C.2.1
  have hown := C.2.2.2.1
  have hw := C.2.2.2.2
  have hl : lv_has ls 5 [(0, .ref (a 0)), (1, .int p0), (2, .int p1), (3, .ref o)] := hl
  have hPX : va_P (gD G) vwCl (wX G a S) s.heap := P_tail hP
  refine lv_aload_n hx hb dL_plusMinutes_0 rfl (lv_at hl 3 rfl) ?_
  refine lv_aload_n hx hb dL_plusMinutes_1 rfl (lv_at hl 0 rfl) ?_
  refine lv_iload_n hx hb dL_plusMinutes_2 rfl (lv_at hl 1 rfl) ?_
  refine lv_iload_n hx hb dL_plusMinutes_3 rfl (lv_at hl 2 rfl) ?_
  refine wcV1 (as := [.int p0, .int p1]) (rest := [.ref o]) (cl := RX0) C (c_X0_plusMinutes l G a S p0 p1 h0) F_X0_plusMinutes rfl bw593 bw594 bw595 hE hP hD hS hA hAB (rv2 hE.K hPX (q0 := 0) rfl) hl.1 dL_plusMinutes_4 ⟨Nat.le_of_ble_eq_true rfl, Nat.le_of_ble_eq_true rfl⟩ rfl (Nat.le_of_ble_eq_true rfl) ⟨Nat.le_of_ble_eq_true rfl, Nat.le_of_ble_eq_true rfl⟩ (fun H locs hP hD hS => ?_)
  refine lv_i2l (v := (((gX0_plusMinutes S p0 p1).1).toInt64)) hx hb dL_plusMinutes_7 (by first | rfl | decide) ?_
  refine va_putN (D := gD G) (cl := vwCl) (tys := gT G) (ci := 3) (v := .long (((gX0_plusMinutes S p0 p1).1).toInt64)) (ty := .long) (C := RX1) (T := TX1) (N := 2) hx hb hw inB_X1 tyX1 tyX1_ok nmX1 hown hE.K hP hD hS 0 rfl rfl 0 (by decide) (va_Nw.use rfl hN.2.1) (fun _ h9 => h9) rfl (by decide +kernel) rfl rfl (Nat.le_of_ble_eq_true rfl) dL_plusMinutes_8 (fun H locs hP hD hS => ?_)
  refine lv_goto (tgt := 18) hx hb dL_plusMinutes_11 (by decide) ?_
  refine lv_iconst (v := (0 : Int32)) hx hb dL_plusMinutes_18 qi_0 ?_
  exact we_h hx hb hr hk hP hD hS (Nat.le_of_ble_eq_true rfl) (Nat.le_of_ble_eq_true rfl) dL_plusMinutes_19

set_option maxRecDepth 100000 in
set_option maxHeartbeats 4000000 in
theorem hI_minusMinutes (l : Launch) (hl9 : l.stackTraces = false) (G : GT) (a : Nat → Nat) (o : Nat) (n : Int64) (sv : Value) (S : SX) (p0 : Int32) (p1 : Int32) (hbad : ¬ (vp_in p0 6)) : HE l G yL_minusMinutes cL_minusMinutes 5 [(0, 11, 14, 25)] 10 1 6 [.ref (a 0), .int p0, .int p1, .ref o] (wH G a o n sv S) (wH G a o n sv S) (1 : Int32) := by
  refine HE.ofW (own := RL) rfl pnN_RL (Nat.le_of_ble_eq_true rfl) ?_
  intro p e s m below meth c A C hr hk hT hN hE hP hD hA hAB hS ls hl
  have hx := C.1
  have hb := C.2.1
  have hown := C.2.2.2.1
  have hw := C.2.2.2.2
  have hl : lv_has ls 5 [(0, .ref (a 0)), (1, .int p0), (2, .int p1), (3, .ref o)] := hl
  have hPX : va_P (gD G) vwCl (wX G a S) s.heap := P_tail hP
  refine lv_aload_n hx hb dL_minusMinutes_0 rfl (lv_at hl 3 rfl) ?_
  refine lv_aload_n hx hb dL_minusMinutes_1 rfl (lv_at hl 0 rfl) ?_
  refine lv_iload_n hx hb dL_minusMinutes_2 rfl (lv_at hl 1 rfl) ?_
  refine lv_iload_n hx hb dL_minusMinutes_3 rfl (lv_at hl 2 rfl) ?_
  refine thV (as := [.int p0, .int p1]) (rest := [.ref o]) (cl := RX0) C (tI_X0_minusMinutes l hl9 G a p0 p1 hbad) F_X0_minusMinutes rfl bw643 bw644 bw645 hE hS hA (rv2 hE.K hPX (q0 := 0) rfl) hl.1 dL_minusMinutes_4 ⟨Nat.le_of_ble_eq_true rfl, Nat.le_of_ble_eq_true rfl⟩ rfl (Nat.le_of_ble_eq_true rfl) ⟨Nat.le_of_ble_eq_true rfl, Nat.le_of_ble_eq_true rfl⟩ (fun q9 ce H1 locs1 hz ho hS1 hce hcv hcl => ?_)
  refine vx_catch hown [] ⟨0, 11, 14, 25⟩ [] (hT.trans rfl) (fun z hz => nomatch hz) (by decide) (by decide) (hw _ bw382) (castXX (hw _ bw391)) hce hcv hcl ?_
  refine lv_astore (lv' := [(4, .ref q9), (0, .ref (a 0)), (1, .int p0), (2, .int p1), (3, .ref o)]) hx hb dL_minusMinutes_14 hl (Nat.le_of_ble_eq_true rfl) rfl (fun ls hl => ?_)
  refine lv_iconst (v := (1 : Int32)) hx hb dL_minusMinutes_16 qi_1 ?_
  exact we_h hx hb hr hk (P_old hP ho) hD hS1 (Nat.le_of_ble_eq_true rfl) (Nat.le_of_ble_eq_true rfl) dL_minusMinutes_17

set_option maxRecDepth 100000 in
set_option maxHeartbeats 4000000 in
theorem hG_minusMinutes (l : Launch) (hl9 : l.stackTraces = false) (G : GT) (a : Nat → Nat) (o : Nat) (n : Int64) (sv : Value) (S : SX) (p0 : Int32) (p1 : Int32) (h0 : vp_in p0 6) : HE l G yL_minusMinutes cL_minusMinutes 5 [(0, 11, 14, 25)] 10 0 0 [.ref (a 0), .int p0, .int p1, .ref o] (wH G a o n sv S) (wH G a o ((gX0_minusMinutes S p0 p1).1.toInt64) sv ((gX0_minusMinutes S p0 p1).2)) (0 : Int32) := by
  refine HE.ofW (own := RL) rfl pnN_RL (Nat.le_of_ble_eq_true rfl) ?_
  intro p e s m below meth c A C hr hk hT hN hE hP hD hA hAB hS ls hl
  have hx := C.1
  have hb := C.2.1
  have hown := C.2.2.2.1
  have hw := C.2.2.2.2
  have hl : lv_has ls 5 [(0, .ref (a 0)), (1, .int p0), (2, .int p1), (3, .ref o)] := hl
  have hPX : va_P (gD G) vwCl (wX G a S) s.heap := P_tail hP
  refine lv_aload_n hx hb dL_minusMinutes_0 rfl (lv_at hl 3 rfl) ?_
  refine lv_aload_n hx hb dL_minusMinutes_1 rfl (lv_at hl 0 rfl) ?_
  refine lv_iload_n hx hb dL_minusMinutes_2 rfl (lv_at hl 1 rfl) ?_
  refine lv_iload_n hx hb dL_minusMinutes_3 rfl (lv_at hl 2 rfl) ?_
  refine wcV1 (as := [.int p0, .int p1]) (rest := [.ref o]) (cl := RX0) C (c_X0_minusMinutes l G a S p0 p1 h0) F_X0_minusMinutes rfl bw643 bw644 bw645 hE hP hD hS hA hAB (rv2 hE.K hPX (q0 := 0) rfl) hl.1 dL_minusMinutes_4 ⟨Nat.le_of_ble_eq_true rfl, Nat.le_of_ble_eq_true rfl⟩ rfl (Nat.le_of_ble_eq_true rfl) ⟨Nat.le_of_ble_eq_true rfl, Nat.le_of_ble_eq_true rfl⟩ (fun H locs hP hD hS => ?_)
  refine lv_i2l (v := (((gX0_minusMinutes S p0 p1).1).toInt64)) hx hb dL_minusMinutes_7 (by first | rfl | decide) ?_
  refine va_putN (D := gD G) (cl := vwCl) (tys := gT G) (ci := 3) (v := .long (((gX0_minusMinutes S p0 p1).1).toInt64)) (ty := .long) (C := RX1) (T := TX1) (N := 2) hx hb hw inB_X1 tyX1 tyX1_ok nmX1 hown hE.K hP hD hS 0 rfl rfl 0 (by decide) (va_Nw.use rfl hN.2.1) (fun _ h9 => h9) rfl (by decide +kernel) rfl rfl (Nat.le_of_ble_eq_true rfl) dL_minusMinutes_8 (fun H locs hP hD hS => ?_)
  refine lv_goto (tgt := 18) hx hb dL_minusMinutes_11 (by decide) ?_
  refine lv_iconst (v := (0 : Int32)) hx hb dL_minusMinutes_18 qi_0 ?_
  exact we_h hx hb hr hk hP hD hS (Nat.le_of_ble_eq_true rfl) (Nat.le_of_ble_eq_true rfl) dL_minusMinutes_19

set_option maxRecDepth 100000 in
set_option maxHeartbeats 4000000 in
theorem hI_plusSeconds (l : Launch) (hl9 : l.stackTraces = false) (G : GT) (a : Nat → Nat) (o : Nat) (n : Int64) (sv : Value) (S : SX) (p0 : Int32) (p1 : Int32) (hbad : ¬ (vp_in p0 6)) : HE l G yL_plusSeconds cL_plusSeconds 5 [(0, 11, 14, 25)] 10 1 6 [.ref (a 0), .int p0, .int p1, .ref o] (wH G a o n sv S) (wH G a o n sv S) (1 : Int32) := by
  refine HE.ofW (own := RL) rfl pnN_RL (Nat.le_of_ble_eq_true rfl) ?_
  intro p e s m below meth c A C hr hk hT hN hE hP hD hA hAB hS ls hl
  have hx := C.1
  have hb := C.2.1
  have hown := C.2.2.2.1
  have hw := C.2.2.2.2
  have hl : lv_has ls 5 [(0, .ref (a 0)), (1, .int p0), (2, .int p1), (3, .ref o)] := hl
  have hPX : va_P (gD G) vwCl (wX G a S) s.heap := P_tail hP
  refine lv_aload_n hx hb dL_plusSeconds_0 rfl (lv_at hl 3 rfl) ?_
  refine lv_aload_n hx hb dL_plusSeconds_1 rfl (lv_at hl 0 rfl) ?_
  refine lv_iload_n hx hb dL_plusSeconds_2 rfl (lv_at hl 1 rfl) ?_
  refine lv_iload_n hx hb dL_plusSeconds_3 rfl (lv_at hl 2 rfl) ?_
  refine thV (as := [.int p0, .int p1]) (rest := [.ref o]) (cl := RX0) C (tI_X0_plusSeconds l hl9 G a p0 p1 hbad) F_X0_plusSeconds rfl bw600 bw601 bw602 hE hS hA (rv2 hE.K hPX (q0 := 0) rfl) hl.1 dL_plusSeconds_4 ⟨Nat.le_of_ble_eq_true rfl, Nat.le_of_ble_eq_true rfl⟩ rfl (Nat.le_of_ble_eq_true rfl) ⟨Nat.le_of_ble_eq_true rfl, Nat.le_of_ble_eq_true rfl⟩ (fun q9 ce H1 locs1 hz ho hS1 hce hcv hcl => ?_)
  refine vx_catch hown [] ⟨0, 11, 14, 25⟩ [] (hT.trans rfl) (fun z hz => nomatch hz) (by decide) (by decide) (hw _ bw382) (castXX (hw _ bw391)) hce hcv hcl ?_
  refine lv_astore (lv' := [(4, .ref q9), (0, .ref (a 0)), (1, .int p0), (2, .int p1), (3, .ref o)]) hx hb dL_plusSeconds_14 hl (Nat.le_of_ble_eq_true rfl) rfl (fun ls hl => ?_)
  refine lv_iconst (v := (1 : Int32)) hx hb dL_plusSeconds_16 qi_1 ?_
  exact we_h hx hb hr hk (P_old hP ho) hD hS1 (Nat.le_of_ble_eq_true rfl) (Nat.le_of_ble_eq_true rfl) dL_plusSeconds_17

set_option maxRecDepth 100000 in
set_option maxHeartbeats 4000000 in
theorem hG_plusSeconds (l : Launch) (hl9 : l.stackTraces = false) (G : GT) (a : Nat → Nat) (o : Nat) (n : Int64) (sv : Value) (S : SX) (p0 : Int32) (p1 : Int32) (h0 : vp_in p0 6) : HE l G yL_plusSeconds cL_plusSeconds 5 [(0, 11, 14, 25)] 10 0 0 [.ref (a 0), .int p0, .int p1, .ref o] (wH G a o n sv S) (wH G a o ((gX0_plusSeconds S p0 p1).1.toInt64) sv ((gX0_plusSeconds S p0 p1).2)) (0 : Int32) := by
  refine HE.ofW (own := RL) rfl pnN_RL (Nat.le_of_ble_eq_true rfl) ?_
  intro p e s m below meth c A C hr hk hT hN hE hP hD hA hAB hS ls hl
  have hx := C.1
  have hb := C.2.1
  have hown := C.2.2.2.1
  have hw := C.2.2.2.2
  have hl : lv_has ls 5 [(0, .ref (a 0)), (1, .int p0), (2, .int p1), (3, .ref o)] := hl
  have hPX : va_P (gD G) vwCl (wX G a S) s.heap := P_tail hP
  refine lv_aload_n hx hb dL_plusSeconds_0 rfl (lv_at hl 3 rfl) ?_
  refine lv_aload_n hx hb dL_plusSeconds_1 rfl (lv_at hl 0 rfl) ?_
  refine lv_iload_n hx hb dL_plusSeconds_2 rfl (lv_at hl 1 rfl) ?_
  refine lv_iload_n hx hb dL_plusSeconds_3 rfl (lv_at hl 2 rfl) ?_
  refine wcV1 (as := [.int p0, .int p1]) (rest := [.ref o]) (cl := RX0) C (c_X0_plusSeconds l G a S p0 p1 h0) F_X0_plusSeconds rfl bw600 bw601 bw602 hE hP hD hS hA hAB (rv2 hE.K hPX (q0 := 0) rfl) hl.1 dL_plusSeconds_4 ⟨Nat.le_of_ble_eq_true rfl, Nat.le_of_ble_eq_true rfl⟩ rfl (Nat.le_of_ble_eq_true rfl) ⟨Nat.le_of_ble_eq_true rfl, Nat.le_of_ble_eq_true rfl⟩ (fun H locs hP hD hS => ?_)
  refine lv_i2l (v := (((gX0_plusSeconds S p0 p1).1).toInt64)) hx hb dL_plusSeconds_7 (by first | rfl | decide) ?_
  refine va_putN (D := gD G) (cl := vwCl) (tys := gT G) (ci := 3) (v := .long (((gX0_plusSeconds S p0 p1).1).toInt64)) (ty := .long) (C := RX1) (T := TX1) (N := 2) hx hb hw inB_X1 tyX1 tyX1_ok nmX1 hown hE.K hP hD hS 0 rfl rfl 0 (by decide) (va_Nw.use rfl hN.2.1) (fun _ h9 => h9) rfl (by decide +kernel) rfl rfl (Nat.le_of_ble_eq_true rfl) dL_plusSeconds_8 (fun H locs hP hD hS => ?_)
  refine lv_goto (tgt := 18) hx hb dL_plusSeconds_11 (by decide) ?_
  refine lv_iconst (v := (0 : Int32)) hx hb dL_plusSeconds_18 qi_0 ?_
  exact we_h hx hb hr hk hP hD hS (Nat.le_of_ble_eq_true rfl) (Nat.le_of_ble_eq_true rfl) dL_plusSeconds_19

set_option maxRecDepth 100000 in
set_option maxHeartbeats 4000000 in
theorem hI_minusSeconds (l : Launch) (hl9 : l.stackTraces = false) (G : GT) (a : Nat → Nat) (o : Nat) (n : Int64) (sv : Value) (S : SX) (p0 : Int32) (p1 : Int32) (hbad : ¬ (vp_in p0 6)) : HE l G yL_minusSeconds cL_minusSeconds 5 [(0, 11, 14, 25)] 10 1 6 [.ref (a 0), .int p0, .int p1, .ref o] (wH G a o n sv S) (wH G a o n sv S) (1 : Int32) := by
  refine HE.ofW (own := RL) rfl pnN_RL (Nat.le_of_ble_eq_true rfl) ?_
  intro p e s m below meth c A C hr hk hT hN hE hP hD hA hAB hS ls hl
  have hx := C.1
  have hb := C.2.1
  have hown := C.2.2.2.1
  have hw := C.2.2.2.2
  have hl : lv_has ls 5 [(0, .ref (a 0)), (1, .int p0), (2, .int p1), (3, .ref o)] := hl
  have hPX : va_P (gD G) vwCl (wX G a S) s.heap := P_tail hP
  refine lv_aload_n hx hb dL_minusSeconds_0 rfl (lv_at hl 3 rfl) ?_
  refine lv_aload_n hx hb dL_minusSeconds_1 rfl (lv_at hl 0 rfl) ?_
  refine lv_iload_n hx hb dL_minusSeconds_2 rfl (lv_at hl 1 rfl) ?_
  refine lv_iload_n hx hb dL_minusSeconds_3 rfl (lv_at hl 2 rfl) ?_
  refine thV (as := [.int p0, .int p1]) (rest := [.ref o]) (cl := RX0) C (tI_X0_minusSeconds l hl9 G a p0 p1 hbad) F_X0_minusSeconds rfl bw650 bw651 bw652 hE hS hA (rv2 hE.K hPX (q0 := 0) rfl) hl.1 dL_minusSeconds_4 ⟨Nat.le_of_ble_eq_true rfl, Nat.le_of_ble_eq_true rfl⟩ rfl (Nat.le_of_ble_eq_true rfl) ⟨Nat.le_of_ble_eq_true rfl, Nat.le_of_ble_eq_true rfl⟩ (fun q9 ce H1 locs1 hz ho hS1 hce hcv hcl => ?_)
  refine vx_catch hown [] ⟨0, 11, 14, 25⟩ [] (hT.trans rfl) (fun z hz => nomatch hz) (by decide) (by decide) (hw _ bw382) (castXX (hw _ bw391)) hce hcv hcl ?_
  refine lv_astore (lv' := [(4, .ref q9), (0, .ref (a 0)), (1, .int p0), (2, .int p1), (3, .ref o)]) hx hb dL_minusSeconds_14 hl (Nat.le_of_ble_eq_true rfl) rfl (fun ls hl => ?_)
  refine lv_iconst (v := (1 : Int32)) hx hb dL_minusSeconds_16 qi_1 ?_
  exact we_h hx hb hr hk (P_old hP ho) hD hS1 (Nat.le_of_ble_eq_true rfl) (Nat.le_of_ble_eq_true rfl) dL_minusSeconds_17

set_option maxRecDepth 100000 in
set_option maxHeartbeats 4000000 in
theorem hG_minusSeconds (l : Launch) (hl9 : l.stackTraces = false) (G : GT) (a : Nat → Nat) (o : Nat) (n : Int64) (sv : Value) (S : SX) (p0 : Int32) (p1 : Int32) (h0 : vp_in p0 6) : HE l G yL_minusSeconds cL_minusSeconds 5 [(0, 11, 14, 25)] 10 0 0 [.ref (a 0), .int p0, .int p1, .ref o] (wH G a o n sv S) (wH G a o ((gX0_minusSeconds S p0 p1).1.toInt64) sv ((gX0_minusSeconds S p0 p1).2)) (0 : Int32) := by
  refine HE.ofW (own := RL) rfl pnN_RL (Nat.le_of_ble_eq_true rfl) ?_
  intro p e s m below meth c A C hr hk hT hN hE hP hD hA hAB hS ls hl
  have hx := C.1
  have hb := C.2.1
  have hown := C.2.2.2.1
  have hw := C.2.2.2.2
  have hl : lv_has ls 5 [(0, .ref (a 0)), (1, .int p0), (2, .int p1), (3, .ref o)] := hl
  have hPX : va_P (gD G) vwCl (wX G a S) s.heap := P_tail hP
  refine lv_aload_n hx hb dL_minusSeconds_0 rfl (lv_at hl 3 rfl) ?_
  refine lv_aload_n hx hb dL_minusSeconds_1 rfl (lv_at hl 0 rfl) ?_
  refine lv_iload_n hx hb dL_minusSeconds_2 rfl (lv_at hl 1 rfl) ?_
  refine lv_iload_n hx hb dL_minusSeconds_3 rfl (lv_at hl 2 rfl) ?_
  refine wcV1 (as := [.int p0, .int p1]) (rest := [.ref o]) (cl := RX0) C (c_X0_minusSeconds l G a S p0 p1 h0) F_X0_minusSeconds rfl bw650 bw651 bw652 hE hP hD hS hA hAB (rv2 hE.K hPX (q0 := 0) rfl) hl.1 dL_minusSeconds_4 ⟨Nat.le_of_ble_eq_true rfl, Nat.le_of_ble_eq_true rfl⟩ rfl (Nat.le_of_ble_eq_true rfl) ⟨Nat.le_of_ble_eq_true rfl, Nat.le_of_ble_eq_true rfl⟩ (fun H locs hP hD hS => ?_)
  refine lv_i2l (v := (((gX0_minusSeconds S p0 p1).1).toInt64)) hx hb dL_minusSeconds_7 (by first | rfl | decide) ?_
  refine va_putN (D := gD G) (cl := vwCl) (tys := gT G) (ci := 3) (v := .long (((gX0_minusSeconds S p0 p1).1).toInt64)) (ty := .long) (C := RX1) (T := TX1) (N := 2) hx hb hw inB_X1 tyX1 tyX1_ok nmX1 hown hE.K hP hD hS 0 rfl rfl 0 (by decide) (va_Nw.use rfl hN.2.1) (fun _ h9 => h9) rfl (by decide +kernel) rfl rfl (Nat.le_of_ble_eq_true rfl) dL_minusSeconds_8 (fun H locs hP hD hS => ?_)
  refine lv_goto (tgt := 18) hx hb dL_minusSeconds_11 (by decide) ?_
  refine lv_iconst (v := (0 : Int32)) hx hb dL_minusSeconds_18 qi_0 ?_
  exact we_h hx hb hr hk hP hD hS (Nat.le_of_ble_eq_true rfl) (Nat.le_of_ble_eq_true rfl) dL_minusSeconds_19

set_option maxRecDepth 100000 in
set_option maxHeartbeats 4000000 in
theorem hI_plusNanos (l : Launch) (hl9 : l.stackTraces = false) (G : GT) (a : Nat → Nat) (o : Nat) (n : Int64) (sv : Value) (S : SX) (p0 : Int32) (p1 : Int32) (p2 : Int32) (hbad : ¬ (vp_in p0 6)) : HE l G yL_plusNanos cL_plusNanos 6 [(0, 13, 16, 25)] 10 1 6 [.ref (a 0), .int p0, .int p1, .int p2, .ref o] (wH G a o n sv S) (wH G a o n sv S) (1 : Int32) := by
  refine HE.ofW (own := RL) rfl pnN_RL (Nat.le_of_ble_eq_true rfl) ?_
  intro p e s m below meth c A C hr hk hT hN hE hP hD hA hAB hS ls hl
  have hx := C.1
  have hb := C.2.1
  have hown := C.2.2.2.1
  have hw := C.2.2.2.2
  have hl : lv_has ls 6 [(0, .ref (a 0)), (1, .int p0), (2, .int p1), (3, .int p2), (4, .ref o)] := hl
  have hPX : va_P (gD G) vwCl (wX G a S) s.heap := P_tail hP
  refine lv_aload hx hb dL_plusNanos_0 (lv_at hl 4 rfl) ?_
  refine lv_aload_n hx hb dL_plusNanos_2 rfl (lv_at hl 0 rfl) ?_
  refine lv_iload_n hx hb dL_plusNanos_3 rfl (lv_at hl 1 rfl) ?_
  refine lv_iload_n hx hb dL_plusNanos_4 rfl (lv_at hl 2 rfl) ?_
  refine lv_iload_n hx hb dL_plusNanos_5 rfl (lv_at hl 3 rfl) ?_
  refine thV (as := [.int p0, .int p1, .int p2]) (rest := [.ref o]) (cl := RX0) C (tI_X0_plusNanos l hl9 G a p0 p1 p2 hbad) F_X0_plusNanos rfl bw657 bw658 bw659 hE hS hA (rv2 hE.K hPX (q0 := 0) rfl) hl.1 dL_plusNanos_6 ⟨Nat.le_of_ble_eq_true rfl, Nat.le_of_ble_eq_true rfl⟩ rfl (Nat.le_of_ble_eq_true rfl) ⟨Nat.le_of_ble_eq_true rfl, Nat.le_of_ble_eq_true rfl⟩ (fun q9 ce H1 locs1 hz ho hS1 hce hcv hcl => ?_)
  refine vx_catch hown [] ⟨0, 13, 16, 25⟩ [] (hT.trans rfl) (fun z hz => nomatch hz) (by decide) (by decide) (hw _ bw382) (castXX (hw _ bw391)) hce hcv hcl ?_
  refine lv_astore (lv' := [(5, .ref q9), (0, .ref (a 0)), (1, .int p0), (2, .int p1), (3, .int p2), (4, .ref o)]) hx hb dL_plusNanos_16 hl (Nat.le_of_ble_eq_true rfl) rfl (fun ls hl => ?_)
  refine lv_iconst (v := (1 : Int32)) hx hb dL_plusNanos_18 qi_1 ?_
  exact we_h hx hb hr hk (P_old hP ho) hD hS1 (Nat.le_of_ble_eq_true rfl) (Nat.le_of_ble_eq_true rfl) dL_plusNanos_19

set_option maxRecDepth 100000 in
set_option maxHeartbeats 4000000 in
theorem hG_plusNanos (l : Launch) (hl9 : l.stackTraces = false) (G : GT) (a : Nat → Nat) (o : Nat) (n : Int64) (sv : Value) (S : SX) (p0 : Int32) (p1 : Int32) (p2 : Int32) (h0 : vp_in p0 6) : HE l G yL_plusNanos cL_plusNanos 6 [(0, 13, 16, 25)] 10 0 0 [.ref (a 0), .int p0, .int p1, .int p2, .ref o] (wH G a o n sv S) (wH G a o ((gX0_plusNanos S p0 p1 p2).1.toInt64) sv ((gX0_plusNanos S p0 p1 p2).2)) (0 : Int32) := by
  refine HE.ofW (own := RL) rfl pnN_RL (Nat.le_of_ble_eq_true rfl) ?_
  intro p e s m below meth c A C hr hk hT hN hE hP hD hA hAB hS ls hl
  have hx := C.1
  have hb := C.2.1
  have hown := C.2.2.2.1
  have hw := C.2.2.2.2
  have hl : lv_has ls 6 [(0, .ref (a 0)), (1, .int p0), (2, .int p1), (3, .int p2), (4, .ref o)] := hl
  have hPX : va_P (gD G) vwCl (wX G a S) s.heap := P_tail hP
  refine lv_aload hx hb dL_plusNanos_0 (lv_at hl 4 rfl) ?_
  refine lv_aload_n hx hb dL_plusNanos_2 rfl (lv_at hl 0 rfl) ?_
  refine lv_iload_n hx hb dL_plusNanos_3 rfl (lv_at hl 1 rfl) ?_
  refine lv_iload_n hx hb dL_plusNanos_4 rfl (lv_at hl 2 rfl) ?_
  refine lv_iload_n hx hb dL_plusNanos_5 rfl (lv_at hl 3 rfl) ?_
  refine wcV1 (as := [.int p0, .int p1, .int p2]) (rest := [.ref o]) (cl := RX0) C (c_X0_plusNanos l G a S p0 p1 p2 h0) F_X0_plusNanos rfl bw657 bw658 bw659 hE hP hD hS hA hAB (rv2 hE.K hPX (q0 := 0) rfl) hl.1 dL_plusNanos_6 ⟨Nat.le_of_ble_eq_true rfl, Nat.le_of_ble_eq_true rfl⟩ rfl (Nat.le_of_ble_eq_true rfl) ⟨Nat.le_of_ble_eq_true rfl, Nat.le_of_ble_eq_true rfl⟩ (fun H locs hP hD hS => ?_)
  refine lv_i2l (v := (((gX0_plusNanos S p0 p1 p2).1).toInt64)) hx hb dL_plusNanos_9 (by first | rfl | decide) ?_
  refine va_putN (D := gD G) (cl := vwCl) (tys := gT G) (ci := 3) (v := .long (((gX0_plusNanos S p0 p1 p2).1).toInt64)) (ty := .long) (C := RX1) (T := TX1) (N := 2) hx hb hw inB_X1 tyX1 tyX1_ok nmX1 hown hE.K hP hD hS 0 rfl rfl 0 (by decide) (va_Nw.use rfl hN.2.1) (fun _ h9 => h9) rfl (by decide +kernel) rfl rfl (Nat.le_of_ble_eq_true rfl) dL_plusNanos_10 (fun H locs hP hD hS => ?_)
  refine lv_goto (tgt := 20) hx hb dL_plusNanos_13 (by decide) ?_
  refine lv_iconst (v := (0 : Int32)) hx hb dL_plusNanos_20 qi_0 ?_
  exact we_h hx hb hr hk hP hD hS (Nat.le_of_ble_eq_true rfl) (Nat.le_of_ble_eq_true rfl) dL_plusNanos_21

set_option maxRecDepth 100000 in
set_option maxHeartbeats 4000000 in
theorem hI_minusNanos (l : Launch) (hl9 : l.stackTraces = false) (G : GT) (a : Nat → Nat) (o : Nat) (n : Int64) (sv : Value) (S : SX) (p0 : Int32) (p1 : Int32) (p2 : Int32) (hbad : ¬ (vp_in p0 6)) : HE l G yL_minusNanos cL_minusNanos 6 [(0, 13, 16, 25)] 10 1 6 [.ref (a 0), .int p0, .int p1, .int p2, .ref o] (wH G a o n sv S) (wH G a o n sv S) (1 : Int32) := by
  refine HE.ofW (own := RL) rfl pnN_RL (Nat.le_of_ble_eq_true rfl) ?_
  intro p e s m below meth c A C hr hk hT hN hE hP hD hA hAB hS ls hl
  have hx := C.1
  have hb := C.2.1
  have hown := C.2.2.2.1
  have hw := C.2.2.2.2
  have hl : lv_has ls 6 [(0, .ref (a 0)), (1, .int p0), (2, .int p1), (3, .int p2), (4, .ref o)] := hl
  have hPX : va_P (gD G) vwCl (wX G a S) s.heap := P_tail hP
  refine lv_aload hx hb dL_minusNanos_0 (lv_at hl 4 rfl) ?_
  refine lv_aload_n hx hb dL_minusNanos_2 rfl (lv_at hl 0 rfl) ?_
  refine lv_iload_n hx hb dL_minusNanos_3 rfl (lv_at hl 1 rfl) ?_
  refine lv_iload_n hx hb dL_minusNanos_4 rfl (lv_at hl 2 rfl) ?_
  refine lv_iload_n hx hb dL_minusNanos_5 rfl (lv_at hl 3 rfl) ?_
  refine thV (as := [.int p0, .int p1, .int p2]) (rest := [.ref o]) (cl := RX0) C (tI_X0_minusNanos l hl9 G a p0 p1 p2 hbad) F_X0_minusNanos rfl bw664 bw665 bw666 hE hS hA (rv2 hE.K hPX (q0 := 0) rfl) hl.1 dL_minusNanos_6 ⟨Nat.le_of_ble_eq_true rfl, Nat.le_of_ble_eq_true rfl⟩ rfl (Nat.le_of_ble_eq_true rfl) ⟨Nat.le_of_ble_eq_true rfl, Nat.le_of_ble_eq_true rfl⟩ (fun q9 ce H1 locs1 hz ho hS1 hce hcv hcl => ?_)
  refine vx_catch hown [] ⟨0, 13, 16, 25⟩ [] (hT.trans rfl) (fun z hz => nomatch hz) (by decide) (by decide) (hw _ bw382) (castXX (hw _ bw391)) hce hcv hcl ?_
  refine lv_astore (lv' := [(5, .ref q9), (0, .ref (a 0)), (1, .int p0), (2, .int p1), (3, .int p2), (4, .ref o)]) hx hb dL_minusNanos_16 hl (Nat.le_of_ble_eq_true rfl) rfl (fun ls hl => ?_)
  refine lv_iconst (v := (1 : Int32)) hx hb dL_minusNanos_18 qi_1 ?_
  exact we_h hx hb hr hk (P_old hP ho) hD hS1 (Nat.le_of_ble_eq_true rfl) (Nat.le_of_ble_eq_true rfl) dL_minusNanos_19

set_option maxRecDepth 100000 in
set_option maxHeartbeats 4000000 in
theorem hG_minusNanos (l : Launch) (hl9 : l.stackTraces = false) (G : GT) (a : Nat → Nat) (o : Nat) (n : Int64) (sv : Value) (S : SX) (p0 : Int32) (p1 : Int32) (p2 : Int32) (h0 : vp_in p0 6) : HE l G yL_minusNanos cL_minusNanos 6 [(0, 13, 16, 25)] 10 0 0 [.ref (a 0), .int p0, .int p1, .int p2, .ref o] (wH G a o n sv S) (wH G a o ((gX0_minusNanos S p0 p1 p2).1.toInt64) sv ((gX0_minusNanos S p0 p1 p2).2)) (0 : Int32) := by
  refine HE.ofW (own := RL) rfl pnN_RL (Nat.le_of_ble_eq_true rfl) ?_
  intro p e s m below meth c A C hr hk hT hN hE hP hD hA hAB hS ls hl
  have hx := C.1
  have hb := C.2.1
  have hown := C.2.2.2.1
  have hw := C.2.2.2.2
  have hl : lv_has ls 6 [(0, .ref (a 0)), (1, .int p0), (2, .int p1), (3, .int p2), (4, .ref o)] := hl
  have hPX : va_P (gD G) vwCl (wX G a S) s.heap := P_tail hP
  refine lv_aload hx hb dL_minusNanos_0 (lv_at hl 4 rfl) ?_
  refine lv_aload_n hx hb dL_minusNanos_2 rfl (lv_at hl 0 rfl) ?_
  refine lv_iload_n hx hb dL_minusNanos_3 rfl (lv_at hl 1 rfl) ?_
  refine lv_iload_n hx hb dL_minusNanos_4 rfl (lv_at hl 2 rfl) ?_
  refine lv_iload_n hx hb dL_minusNanos_5 rfl (lv_at hl 3 rfl) ?_
  refine wcV1 (as := [.int p0, .int p1, .int p2]) (rest := [.ref o]) (cl := RX0) C (c_X0_minusNanos l G a S p0 p1 p2 h0) F_X0_minusNanos rfl bw664 bw665 bw666 hE hP hD hS hA hAB (rv2 hE.K hPX (q0 := 0) rfl) hl.1 dL_minusNanos_6 ⟨Nat.le_of_ble_eq_true rfl, Nat.le_of_ble_eq_true rfl⟩ rfl (Nat.le_of_ble_eq_true rfl) ⟨Nat.le_of_ble_eq_true rfl, Nat.le_of_ble_eq_true rfl⟩ (fun H locs hP hD hS => ?_)
  refine lv_i2l (v := (((gX0_minusNanos S p0 p1 p2).1).toInt64)) hx hb dL_minusNanos_9 (by first | rfl | decide) ?_
  refine va_putN (D := gD G) (cl := vwCl) (tys := gT G) (ci := 3) (v := .long (((gX0_minusNanos S p0 p1 p2).1).toInt64)) (ty := .long) (C := RX1) (T := TX1) (N := 2) hx hb hw inB_X1 tyX1 tyX1_ok nmX1 hown hE.K hP hD hS 0 rfl rfl 0 (by decide) (va_Nw.use rfl hN.2.1) (fun _ h9 => h9) rfl (by decide +kernel) rfl rfl (Nat.le_of_ble_eq_true rfl) dL_minusNanos_10 (fun H locs hP hD hS => ?_)
  refine lv_goto (tgt := 20) hx hb dL_minusNanos_13 (by decide) ?_
  refine lv_iconst (v := (0 : Int32)) hx hb dL_minusNanos_20 qi_0 ?_
  exact we_h hx hb hr hk hP hD hS (Nat.le_of_ble_eq_true rfl) (Nat.le_of_ble_eq_true rfl) dL_minusNanos_21

set_option maxRecDepth 100000 in
set_option maxHeartbeats 4000000 in
theorem hI_plusUnits (l : Launch) (hl9 : l.stackTraces = false) (G : GT) (a : Nat → Nat) (o : Nat) (n : Int64) (sv : Value) (S : SX) (p0 : Int32) (p1 : Int32) (p2 : Int32) (hbad : ¬ (vp_in p0 6)) : HE l G yL_plusUnits cL_plusUnits 6 [(0, 13, 16, 25), (0, 13, 20, 19)] 10 1 6 [.ref (a 0), .int p0, .int p1, .int p2, .ref o] (wH G a o n sv S) (wH G a o n sv S) (1 : Int32) := by
  refine HE.ofW (own := RL) rfl pnN_RL (Nat.le_of_ble_eq_true rfl) ?_
  intro p e s m below meth c A C hr hk hT hN hE hP hD hA hAB hS ls hl
  have hx := C.1
  have hb := C.2.1
  have hown := C.2.2.2.1
  have hw := C.2.2.2.2
  have hl : lv_has ls 6 [(0, .ref (a 0)), (1, .int p0), (2, .int p1), (3, .int p2), (4, .ref o)] := hl
  have hPX : va_P (gD G) vwCl (wX G a S) s.heap := P_tail hP
  refine lv_aload hx hb dL_plusUnits_0 (lv_at hl 4 rfl) ?_
  refine lv_aload_n hx hb dL_plusUnits_2 rfl (lv_at hl 0 rfl) ?_
  refine lv_iload_n hx hb dL_plusUnits_3 rfl (lv_at hl 1 rfl) ?_
  refine lv_iload_n hx hb dL_plusUnits_4 rfl (lv_at hl 2 rfl) ?_
  refine lv_iload_n hx hb dL_plusUnits_5 rfl (lv_at hl 3 rfl) ?_
  refine thV (as := [.int p0, .int p1, .int p2]) (rest := [.ref o]) (cl := RX0) C (tI_X0_plusUnits l hl9 G a p0 p1 p2 hbad) F_X0_plusUnits rfl bw671 bw672 bw673 hE hS hA (rv2 hE.K hPX (q0 := 0) rfl) hl.1 dL_plusUnits_6 ⟨Nat.le_of_ble_eq_true rfl, Nat.le_of_ble_eq_true rfl⟩ rfl (Nat.le_of_ble_eq_true rfl) ⟨Nat.le_of_ble_eq_true rfl, Nat.le_of_ble_eq_true rfl⟩ (fun q9 ce H1 locs1 hz ho hS1 hce hcv hcl => ?_)
  refine vx_catch hown [] ⟨0, 13, 16, 25⟩ [⟨0, 13, 20, 19⟩] (hT.trans rfl) (fun z hz => nomatch hz) (by decide) (by decide) (hw _ bw382) (castXX (hw _ bw391)) hce hcv hcl ?_
  refine lv_astore (lv' := [(5, .ref q9), (0, .ref (a 0)), (1, .int p0), (2, .int p1), (3, .int p2), (4, .ref o)]) hx hb dL_plusUnits_16 hl (Nat.le_of_ble_eq_true rfl) rfl (fun ls hl => ?_)
  refine lv_iconst (v := (1 : Int32)) hx hb dL_plusUnits_18 qi_1 ?_
  exact we_h hx hb hr hk (P_old hP ho) hD hS1 (Nat.le_of_ble_eq_true rfl) (Nat.le_of_ble_eq_true rfl) dL_plusUnits_19

set_option maxRecDepth 100000 in
set_option maxHeartbeats 4000000 in
theorem hA_plusUnits (l : Launch) (hl9 : l.stackTraces = false) (G : GT) (a : Nat → Nat) (o : Nat) (n : Int64) (sv : Value) (S : SX) (p0 : Int32) (p1 : Int32) (p2 : Int32) (h0 : vp_in p0 6) (hbad : ¬ ((¬ p1 < (-100000 : Int32) ∧ p1 ≤ (100000 : Int32)) ∧ (¬ p2 < (0 : Int32) ∧ p2 ≤ (13 : Int32)))) : HE l G yL_plusUnits cL_plusUnits 6 [(0, 13, 16, 25), (0, 13, 20, 19)] 10 1 6 [.ref (a 0), .int p0, .int p1, .int p2, .ref o] (wH G a o n sv S) (wH G a o n sv S) (2 : Int32) := by
  refine HE.ofW (own := RL) rfl pnN_RL (Nat.le_of_ble_eq_true rfl) ?_
  intro p e s m below meth c A C hr hk hT hN hE hP hD hA hAB hS ls hl
  have hx := C.1
  have hb := C.2.1
  have hown := C.2.2.2.1
  have hw := C.2.2.2.2
  have hl : lv_has ls 6 [(0, .ref (a 0)), (1, .int p0), (2, .int p1), (3, .int p2), (4, .ref o)] := hl
  have hPX : va_P (gD G) vwCl (wX G a S) s.heap := P_tail hP
  refine lv_aload hx hb dL_plusUnits_0 (lv_at hl 4 rfl) ?_
  refine lv_aload_n hx hb dL_plusUnits_2 rfl (lv_at hl 0 rfl) ?_
  refine lv_iload_n hx hb dL_plusUnits_3 rfl (lv_at hl 1 rfl) ?_
  refine lv_iload_n hx hb dL_plusUnits_4 rfl (lv_at hl 2 rfl) ?_
  refine lv_iload_n hx hb dL_plusUnits_5 rfl (lv_at hl 3 rfl) ?_
  refine thV (as := [.int p0, .int p1, .int p2]) (rest := [.ref o]) (cl := RX0) C (tA_X0_plusUnits l hl9 G a p0 p1 p2 h0 hbad) F_X0_plusUnits rfl bw671 bw672 bw673 hE hS hA (rv2 hE.K hPX (q0 := 0) rfl) hl.1 dL_plusUnits_6 ⟨Nat.le_of_ble_eq_true rfl, Nat.le_of_ble_eq_true rfl⟩ rfl (Nat.le_of_ble_eq_true rfl) ⟨Nat.le_of_ble_eq_true rfl, Nat.le_of_ble_eq_true rfl⟩ (fun q9 ce H1 locs1 hz ho hS1 hce hcv hcl => ?_)
  refine vx_catch hown [⟨0, 13, 16, 25⟩] ⟨0, 13, 20, 19⟩ [] (hT.trans rfl) (fun z hz => by cases List.mem_singleton.mp hz; exact Or.inr ⟨by decide, eI, hw _ bw382, hN.1⟩) (by decide) (by decide) (hw _ bw303) (castXX (hw _ bw312)) hce hcv hcl ?_
  refine lv_astore (lv' := [(5, .ref q9), (0, .ref (a 0)), (1, .int p0), (2, .int p1), (3, .int p2), (4, .ref o)]) hx hb dL_plusUnits_20 hl (Nat.le_of_ble_eq_true rfl) rfl (fun ls hl => ?_)
  refine lv_iconst (v := (2 : Int32)) hx hb dL_plusUnits_22 qi_2 ?_
  exact we_h hx hb hr hk (P_old hP ho) hD hS1 (Nat.le_of_ble_eq_true rfl) (Nat.le_of_ble_eq_true rfl) dL_plusUnits_23

set_option maxRecDepth 100000 in
set_option maxHeartbeats 4000000 in
theorem hG_plusUnits (l : Launch) (hl9 : l.stackTraces = false) (G : GT) (a : Nat → Nat) (o : Nat) (n : Int64) (sv : Value) (S : SX) (p0 : Int32) (p1 : Int32) (p2 : Int32) (h0 : vp_in p0 6) (r1 : ¬ p1 < (-100000 : Int32)) (q1 : p1 ≤ (100000 : Int32)) (r2 : ¬ p2 < (0 : Int32)) (q2 : p2 ≤ (13 : Int32)) : HE l G yL_plusUnits cL_plusUnits 6 [(0, 13, 16, 25), (0, 13, 20, 19)] 10 0 0 [.ref (a 0), .int p0, .int p1, .int p2, .ref o] (wH G a o n sv S) (wH G a o ((gX0_plusUnits S p0 p1 p2).1.toInt64) sv ((gX0_plusUnits S p0 p1 p2).2)) (0 : Int32) := by
  refine HE.ofW (own := RL) rfl pnN_RL (Nat.le_of_ble_eq_true rfl) ?_
  intro p e s m below meth c A C hr hk hT hN hE hP hD hA hAB hS ls hl
  have hx := C.1
  have hb := C.2.1
  have hown := C.2.2.2.1
  have hw := C.2.2.2.2
  have hl : lv_has ls 6 [(0, .ref (a 0)), (1, .int p0), (2, .int p1), (3, .int p2), (4, .ref o)] := hl
  have hPX : va_P (gD G) vwCl (wX G a S) s.heap := P_tail hP
  refine lv_aload hx hb dL_plusUnits_0 (lv_at hl 4 rfl) ?_
  refine lv_aload_n hx hb dL_plusUnits_2 rfl (lv_at hl 0 rfl) ?_
  refine lv_iload_n hx hb dL_plusUnits_3 rfl (lv_at hl 1 rfl) ?_
  refine lv_iload_n hx hb dL_plusUnits_4 rfl (lv_at hl 2 rfl) ?_
  refine lv_iload_n hx hb dL_plusUnits_5 rfl (lv_at hl 3 rfl) ?_
  refine wcV1 (as := [.int p0, .int p1, .int p2]) (rest := [.ref o]) (cl := RX0) C (c_X0_plusUnits l G a S p0 p1 p2 h0 r1 q1 r2 q2) F_X0_plusUnits rfl bw671 bw672 bw673 hE hP hD hS hA hAB (rv2 hE.K hPX (q0 := 0) rfl) hl.1 dL_plusUnits_6 ⟨Nat.le_of_ble_eq_true rfl, Nat.le_of_ble_eq_true rfl⟩ rfl (Nat.le_of_ble_eq_true rfl) ⟨Nat.le_of_ble_eq_true rfl, Nat.le_of_ble_eq_true rfl⟩ (fun H locs hP hD hS => ?_)
  refine lv_i2l (v := (((gX0_plusUnits S p0 p1 p2).1).toInt64)) hx hb dL_plusUnits_9 (by first | rfl | decide) ?_
  refine va_putN (D := gD G) (cl := vwCl) (tys := gT G) (ci := 3) (v := .long (((gX0_plusUnits S p0 p1 p2).1).toInt64)) (ty := .long) (C := RX1) (T := TX1) (N := 2) hx hb hw inB_X1 tyX1 tyX1_ok nmX1 hown hE.K hP hD hS 0 rfl rfl 0 (by decide) (va_Nw.use rfl hN.2.1) (fun _ h9 => h9) rfl (by decide +kernel) rfl rfl (Nat.le_of_ble_eq_true rfl) dL_plusUnits_10 (fun H locs hP hD hS => ?_)
  refine lv_goto (tgt := 24) hx hb dL_plusUnits_13 (by decide) ?_
  refine lv_iconst (v := (0 : Int32)) hx hb dL_plusUnits_24 qi_0 ?_
  exact we_h hx hb hr hk hP hD hS (Nat.le_of_ble_eq_true rfl) (Nat.le_of_ble_eq_true rfl) dL_plusUnits_25

set_option maxRecDepth 100000 in
set_option maxHeartbeats 4000000 in
theorem hI_year (l : Launch) (hl9 : l.stackTraces = false) (G : GT) (a : Nat → Nat) (o : Nat) (n : Int64) (sv : Value) (S : SX) (p0 : Int32) (hbad : ¬ (vp_in p0 6)) : HE l G yL_year cL_year 4 [(0, 10, 13, 25)] 10 1 6 [.ref (a 0), .int p0, .ref o] (wH G a o n sv S) (wH G a o n sv S) (1 : Int32) := by
  refine HE.ofW (own := RL) rfl pnN_RL (Nat.le_of_ble_eq_true rfl) ?_
  intro p e s m below meth c A C hr hk hT hN hE hP hD hA hAB hS ls hl
  have hx := C.1
  have hb := C.2.1
  have hown := C.2.2.2.1
  have hw := C.2.2.2.2
  have hl : lv_has ls 4 [(0, .ref (a 0)), (1, .int p0), (2, .ref o)] := hl
  have hPX : va_P (gD G) vwCl (wX G a S) s.heap := P_tail hP
  refine lv_aload_n hx hb dL_year_0 rfl (lv_at hl 2 rfl) ?_
  refine lv_aload_n hx hb dL_year_1 rfl (lv_at hl 0 rfl) ?_
  refine lv_iload_n hx hb dL_year_2 rfl (lv_at hl 1 rfl) ?_
  refine thV (as := [.int p0]) (rest := [.ref o]) (cl := RX0) C (tI_X0_year l hl9 G a p0 hbad) F_X0_year rfl bw686 bw687 bw688 hE hS hA (rv2 hE.K hPX (q0 := 0) rfl) hl.1 dL_year_3 ⟨Nat.le_of_ble_eq_true rfl, Nat.le_of_ble_eq_true rfl⟩ rfl (Nat.le_of_ble_eq_true rfl) ⟨Nat.le_of_ble_eq_true rfl, Nat.le_of_ble_eq_true rfl⟩ (fun q9 ce H1 locs1 hz ho hS1 hce hcv hcl => ?_)
  refine vx_catch hown [] ⟨0, 10, 13, 25⟩ [] (hT.trans rfl) (fun z hz => nomatch hz) (by decide) (by decide) (hw _ bw382) (castXX (hw _ bw391)) hce hcv hcl ?_
  refine lv_astore_n (lv' := [(3, .ref q9), (0, .ref (a 0)), (1, .int p0), (2, .ref o)]) hx hb dL_year_13 rfl hl (Nat.le_of_ble_eq_true rfl) rfl (fun ls hl => ?_)
  refine lv_iconst (v := (1 : Int32)) hx hb dL_year_14 qi_1 ?_
  exact we_h hx hb hr hk (P_old hP ho) hD hS1 (Nat.le_of_ble_eq_true rfl) (Nat.le_of_ble_eq_true rfl) dL_year_15

set_option maxRecDepth 100000 in
set_option maxHeartbeats 4000000 in
theorem hG_year (l : Launch) (hl9 : l.stackTraces = false) (G : GT) (a : Nat → Nat) (o : Nat) (n : Int64) (sv : Value) (S : SX) (p0 : Int32) (h0 : vp_in p0 6) : HE l G yL_year cL_year 4 [(0, 10, 13, 25)] 10 0 0 [.ref (a 0), .int p0, .ref o] (wH G a o n sv S) (wH G a o ((fX0_year S p0).toInt64) sv S) (0 : Int32) := by
  refine HE.ofW (own := RL) rfl pnN_RL (Nat.le_of_ble_eq_true rfl) ?_
  intro p e s m below meth c A C hr hk hT hN hE hP hD hA hAB hS ls hl
  have hx := C.1
  have hb := C.2.1
  have hown := C.2.2.2.1
  have hw := C.2.2.2.2
  have hl : lv_has ls 4 [(0, .ref (a 0)), (1, .int p0), (2, .ref o)] := hl
  have hPX : va_P (gD G) vwCl (wX G a S) s.heap := P_tail hP
  refine lv_aload_n hx hb dL_year_0 rfl (lv_at hl 2 rfl) ?_
  refine lv_aload_n hx hb dL_year_1 rfl (lv_at hl 0 rfl) ?_
  refine lv_iload_n hx hb dL_year_2 rfl (lv_at hl 1 rfl) ?_
  refine rcVi (as := [.int p0]) (rest := [.ref o]) (cl := RX0) C (c_X0_year l G a S p0 h0) F_X0_year rfl bw686 bw687 bw688 hE hPX (rv2 hE.K hPX (q0 := 0) rfl) hl.1 dL_year_3 ⟨Nat.le_of_ble_eq_true rfl, Nat.le_of_ble_eq_true rfl⟩ rfl (Nat.le_of_ble_eq_true rfl) ⟨Nat.le_of_ble_eq_true rfl, Nat.le_of_ble_eq_true rfl⟩ ?_
  refine lv_i2l (v := ((fX0_year S p0).toInt64)) hx hb dL_year_6 (by first | rfl | decide) ?_
  refine va_putN (D := gD G) (cl := vwCl) (tys := gT G) (ci := 3) (v := .long ((fX0_year S p0).toInt64)) (ty := .long) (C := RX1) (T := TX1) (N := 2) hx hb hw inB_X1 tyX1 tyX1_ok nmX1 hown hE.K hP hD hS 0 rfl rfl 0 (by decide) (va_Nw.use rfl hN.2.1) (fun _ h9 => h9) rfl (by decide +kernel) rfl rfl (Nat.le_of_ble_eq_true rfl) dL_year_7 (fun H locs hP hD hS => ?_)
  refine lv_goto (tgt := 16) hx hb dL_year_10 (by decide) ?_
  refine lv_iconst (v := (0 : Int32)) hx hb dL_year_16 qi_0 ?_
  exact we_h hx hb hr hk hP hD hS (Nat.le_of_ble_eq_true rfl) (Nat.le_of_ble_eq_true rfl) dL_year_17

set_option maxRecDepth 100000 in
set_option maxHeartbeats 4000000 in
theorem hI_month (l : Launch) (hl9 : l.stackTraces = false) (G : GT) (a : Nat → Nat) (o : Nat) (n : Int64) (sv : Value) (S : SX) (p0 : Int32) (hbad : ¬ (vp_in p0 6)) : HE l G yL_month cL_month 4 [(0, 10, 13, 25)] 10 1 6 [.ref (a 0), .int p0, .ref o] (wH G a o n sv S) (wH G a o n sv S) (1 : Int32) := by
  refine HE.ofW (own := RL) rfl pnN_RL (Nat.le_of_ble_eq_true rfl) ?_
  intro p e s m below meth c A C hr hk hT hN hE hP hD hA hAB hS ls hl
  have hx := C.1
  have hb := C.2.1
  have hown := C.2.2.2.1
  have hw := C.2.2.2.2
  have hl : lv_has ls 4 [(0, .ref (a 0)), (1, .int p0), (2, .ref o)] := hl
  have hPX : va_P (gD G) vwCl (wX G a S) s.heap := P_tail hP
  refine lv_aload_n hx hb dL_month_0 rfl (lv_at hl 2 rfl) ?_
  refine lv_aload_n hx hb dL_month_1 rfl (lv_at hl 0 rfl) ?_
  refine lv_iload_n hx hb dL_month_2 rfl (lv_at hl 1 rfl) ?_
  refine thV (as := [.int p0]) (rest := [.ref o]) (cl := RX0) C (tI_X0_month l hl9 G a p0 hbad) F_X0_month rfl bw693 bw694 bw695 hE hS hA (rv2 hE.K hPX (q0 := 0) rfl) hl.1 dL_month_3 ⟨Nat.le_of_ble_eq_true rfl, Nat.le_of_ble_eq_true rfl⟩ rfl (Nat.le_of_ble_eq_true rfl) ⟨Nat.le_of_ble_eq_true rfl, Nat.le_of_ble_eq_true rfl⟩ (fun q9 ce H1 locs1 hz ho hS1 hce hcv hcl => ?_)
  refine vx_catch hown [] ⟨0, 10, 13, 25⟩ [] (hT.trans rfl) (fun z hz => nomatch hz) (by decide) (by decide) (hw _ bw382) (castXX (hw _ bw391)) hce hcv hcl ?_
  refine lv_astore_n (lv' := [(3, .ref q9), (0, .ref (a 0)), (1, .int p0), (2, .ref o)]) hx hb dL_month_13 rfl hl (Nat.le_of_ble_eq_true rfl) rfl (fun ls hl => ?_)
  refine lv_iconst (v := (1 : Int32)) hx hb dL_month_14 qi_1 ?_
  exact we_h hx hb hr hk (P_old hP ho) hD hS1 (Nat.le_of_ble_eq_true rfl) (Nat.le_of_ble_eq_true rfl) dL_month_15

set_option maxRecDepth 100000 in
set_option maxHeartbeats 4000000 in
theorem hG_month (l : Launch) (hl9 : l.stackTraces = false) (G : GT) (a : Nat → Nat) (o : Nat) (n : Int64) (sv : Value) (S : SX) (p0 : Int32) (h0 : vp_in p0 6) : HE l G yL_month cL_month 4 [(0, 10, 13, 25)] 10 0 0 [.ref (a 0), .int p0, .ref o] (wH G a o n sv S) (wH G a o ((fX0_month S p0).toInt64) sv S) (0 : Int32) := by
  refine HE.ofW (own := RL) rfl pnN_RL (Nat.le_of_ble_eq_true rfl) ?_
  intro p e s m below meth c A C hr hk hT hN hE hP hD hA hAB hS ls hl
  have hx := C.1
  have hb := C.2.1
  have hown := C.2.2.2.1
  have hw := C.2.2.2.2
  have hl : lv_has ls 4 [(0, .ref (a 0)), (1, .int p0), (2, .ref o)] := hl
  have hPX : va_P (gD G) vwCl (wX G a S) s.heap := P_tail hP
  refine lv_aload_n hx hb dL_month_0 rfl (lv_at hl 2 rfl) ?_
  refine lv_aload_n hx hb dL_month_1 rfl (lv_at hl 0 rfl) ?_
  refine lv_iload_n hx hb dL_month_2 rfl (lv_at hl 1 rfl) ?_
  refine rcVi (as := [.int p0]) (rest := [.ref o]) (cl := RX0) C (c_X0_month l G a S p0 h0) F_X0_month rfl bw693 bw694 bw695 hE hPX (rv2 hE.K hPX (q0 := 0) rfl) hl.1 dL_month_3 ⟨Nat.le_of_ble_eq_true rfl, Nat.le_of_ble_eq_true rfl⟩ rfl (Nat.le_of_ble_eq_true rfl) ⟨Nat.le_of_ble_eq_true rfl, Nat.le_of_ble_eq_true rfl⟩ ?_
  refine lv_i2l (v := ((fX0_month S p0).toInt64)) hx hb dL_month_6 (by first | rfl | decide) ?_
  refine va_putN (D := gD G) (cl := vwCl) (tys := gT G) (ci := 3) (v := .long ((fX0_month S p0).toInt64)) (ty := .long) (C := RX1) (T := TX1) (N := 2) hx hb hw inB_X1 tyX1 tyX1_ok nmX1 hown hE.K hP hD hS 0 rfl rfl 0 (by decide) (va_Nw.use rfl hN.2.1) (fun _ h9 => h9) rfl (by decide +kernel) rfl rfl (Nat.le_of_ble_eq_true rfl) dL_month_7 (fun H locs hP hD hS => ?_)
  refine lv_goto (tgt := 16) hx hb dL_month_10 (by decide) ?_
  refine lv_iconst (v := (0 : Int32)) hx hb dL_month_16 qi_0 ?_
  exact we_h hx hb hr hk hP hD hS (Nat.le_of_ble_eq_true rfl) (Nat.le_of_ble_eq_true rfl) dL_month_17

set_option maxRecDepth 100000 in
set_option maxHeartbeats 4000000 in
theorem hI_dayOfMonth (l : Launch) (hl9 : l.stackTraces = false) (G : GT) (a : Nat → Nat) (o : Nat) (n : Int64) (sv : Value) (S : SX) (p0 : Int32) (hbad : ¬ (vp_in p0 6)) : HE l G yL_dayOfMonth cL_dayOfMonth 4 [(0, 10, 13, 25)] 10 1 6 [.ref (a 0), .int p0, .ref o] (wH G a o n sv S) (wH G a o n sv S) (1 : Int32) := by
  refine HE.ofW (own := RL) rfl pnN_RL (Nat.le_of_ble_eq_true rfl) ?_
  intro p e s m below meth c A C hr hk hT hN hE hP hD hA hAB hS ls hl
  have hx := C.1
  have hb := C.2.1
  have hown := C.2.2.2.1
  have hw := C.2.2.2.2
  have hl : lv_has ls 4 [(0, .ref (a 0)), (1, .int p0), (2, .ref o)] := hl
  have hPX : va_P (gD G) vwCl (wX G a S) s.heap := P_tail hP
  refine lv_aload_n hx hb dL_dayOfMonth_0 rfl (lv_at hl 2 rfl) ?_
  refine lv_aload_n hx hb dL_dayOfMonth_1 rfl (lv_at hl 0 rfl) ?_
  refine lv_iload_n hx hb dL_dayOfMonth_2 rfl (lv_at hl 1 rfl) ?_
  refine thV (as := [.int p0]) (rest := [.ref o]) (cl := RX0) C (tI_X0_dayOfMonth l hl9 G a p0 hbad) F_X0_dayOfMonth rfl bw700 bw701 bw702 hE hS hA (rv2 hE.K hPX (q0 := 0) rfl) hl.1 dL_dayOfMonth_3 ⟨Nat.le_of_ble_eq_true rfl, Nat.le_of_ble_eq_true rfl⟩ rfl (Nat.le_of_ble_eq_true rfl) ⟨Nat.le_of_ble_eq_true rfl, Nat.le_of_ble_eq_true rfl⟩ (fun q9 ce H1 locs1 hz ho hS1 hce hcv hcl => ?_)
  refine vx_catch hown [] ⟨0, 10, 13, 25⟩ [] (hT.trans rfl) (fun z hz => nomatch hz) (by decide) (by decide) (hw _ bw382) (castXX (hw _ bw391)) hce hcv hcl ?_
  refine lv_astore_n (lv' := [(3, .ref q9), (0, .ref (a 0)), (1, .int p0), (2, .ref o)]) hx hb dL_dayOfMonth_13 rfl hl (Nat.le_of_ble_eq_true rfl) rfl (fun ls hl => ?_)
  refine lv_iconst (v := (1 : Int32)) hx hb dL_dayOfMonth_14 qi_1 ?_
  exact we_h hx hb hr hk (P_old hP ho) hD hS1 (Nat.le_of_ble_eq_true rfl) (Nat.le_of_ble_eq_true rfl) dL_dayOfMonth_15

set_option maxRecDepth 100000 in
set_option maxHeartbeats 4000000 in
theorem hG_dayOfMonth (l : Launch) (hl9 : l.stackTraces = false) (G : GT) (a : Nat → Nat) (o : Nat) (n : Int64) (sv : Value) (S : SX) (p0 : Int32) (h0 : vp_in p0 6) : HE l G yL_dayOfMonth cL_dayOfMonth 4 [(0, 10, 13, 25)] 10 0 0 [.ref (a 0), .int p0, .ref o] (wH G a o n sv S) (wH G a o ((fX0_dayOfMonth S p0).toInt64) sv S) (0 : Int32) := by
  refine HE.ofW (own := RL) rfl pnN_RL (Nat.le_of_ble_eq_true rfl) ?_
  intro p e s m below meth c A C hr hk hT hN hE hP hD hA hAB hS ls hl
  have hx := C.1
  have hb := C.2.1
  have hown := C.2.2.2.1
  have hw := C.2.2.2.2
  have hl : lv_has ls 4 [(0, .ref (a 0)), (1, .int p0), (2, .ref o)] := hl
  have hPX : va_P (gD G) vwCl (wX G a S) s.heap := P_tail hP
  refine lv_aload_n hx hb dL_dayOfMonth_0 rfl (lv_at hl 2 rfl) ?_
  refine lv_aload_n hx hb dL_dayOfMonth_1 rfl (lv_at hl 0 rfl) ?_
  refine lv_iload_n hx hb dL_dayOfMonth_2 rfl (lv_at hl 1 rfl) ?_
  refine rcVi (as := [.int p0]) (rest := [.ref o]) (cl := RX0) C (c_X0_dayOfMonth l G a S p0 h0) F_X0_dayOfMonth rfl bw700 bw701 bw702 hE hPX (rv2 hE.K hPX (q0 := 0) rfl) hl.1 dL_dayOfMonth_3 ⟨Nat.le_of_ble_eq_true rfl, Nat.le_of_ble_eq_true rfl⟩ rfl (Nat.le_of_ble_eq_true rfl) ⟨Nat.le_of_ble_eq_true rfl, Nat.le_of_ble_eq_true rfl⟩ ?_
  refine lv_i2l (v := ((fX0_dayOfMonth S p0).toInt64)) hx hb dL_dayOfMonth_6 (by first | rfl | decide) ?_
  refine va_putN (D := gD G) (cl := vwCl) (tys := gT G) (ci := 3) (v := .long ((fX0_dayOfMonth S p0).toInt64)) (ty := .long) (C := RX1) (T := TX1) (N := 2) hx hb hw inB_X1 tyX1 tyX1_ok nmX1 hown hE.K hP hD hS 0 rfl rfl 0 (by decide) (va_Nw.use rfl hN.2.1) (fun _ h9 => h9) rfl (by decide +kernel) rfl rfl (Nat.le_of_ble_eq_true rfl) dL_dayOfMonth_7 (fun H locs hP hD hS => ?_)
  refine lv_goto (tgt := 16) hx hb dL_dayOfMonth_10 (by decide) ?_
  refine lv_iconst (v := (0 : Int32)) hx hb dL_dayOfMonth_16 qi_0 ?_
  exact we_h hx hb hr hk hP hD hS (Nat.le_of_ble_eq_true rfl) (Nat.le_of_ble_eq_true rfl) dL_dayOfMonth_17

set_option maxRecDepth 100000 in
set_option maxHeartbeats 4000000 in
theorem hI_dayOfYear (l : Launch) (hl9 : l.stackTraces = false) (G : GT) (a : Nat → Nat) (o : Nat) (n : Int64) (sv : Value) (S : SX) (p0 : Int32) (hbad : ¬ (vp_in p0 6)) : HE l G yL_dayOfYear cL_dayOfYear 4 [(0, 10, 13, 25)] 10 1 6 [.ref (a 0), .int p0, .ref o] (wH G a o n sv S) (wH G a o n sv S) (1 : Int32) := by
  refine HE.ofW (own := RL) rfl pnN_RL (Nat.le_of_ble_eq_true rfl) ?_
  intro p e s m below meth c A C hr hk hT hN hE hP hD hA hAB hS ls hl
  have hx := C.1
  have hb := C.2.1
  have hown := C.2.2.2.1
  have hw := C.2.2.2.2
  have hl : lv_has ls 4 [(0, .ref (a 0)), (1, .int p0), (2, .ref o)] := hl
  have hPX : va_P (gD G) vwCl (wX G a S) s.heap := P_tail hP
  refine lv_aload_n hx hb dL_dayOfYear_0 rfl (lv_at hl 2 rfl) ?_
  refine lv_aload_n hx hb dL_dayOfYear_1 rfl (lv_at hl 0 rfl) ?_
  refine lv_iload_n hx hb dL_dayOfYear_2 rfl (lv_at hl 1 rfl) ?_
  refine thV (as := [.int p0]) (rest := [.ref o]) (cl := RX0) C (tI_X0_dayOfYear l hl9 G a p0 hbad) F_X0_dayOfYear rfl bw707 bw708 bw709 hE hS hA (rv2 hE.K hPX (q0 := 0) rfl) hl.1 dL_dayOfYear_3 ⟨Nat.le_of_ble_eq_true rfl, Nat.le_of_ble_eq_true rfl⟩ rfl (Nat.le_of_ble_eq_true rfl) ⟨Nat.le_of_ble_eq_true rfl, Nat.le_of_ble_eq_true rfl⟩ (fun q9 ce H1 locs1 hz ho hS1 hce hcv hcl => ?_)
  refine vx_catch hown [] ⟨0, 10, 13, 25⟩ [] (hT.trans rfl) (fun z hz => nomatch hz) (by decide) (by decide) (hw _ bw382) (castXX (hw _ bw391)) hce hcv hcl ?_
  refine lv_astore_n (lv' := [(3, .ref q9), (0, .ref (a 0)), (1, .int p0), (2, .ref o)]) hx hb dL_dayOfYear_13 rfl hl (Nat.le_of_ble_eq_true rfl) rfl (fun ls hl => ?_)
  refine lv_iconst (v := (1 : Int32)) hx hb dL_dayOfYear_14 qi_1 ?_
  exact we_h hx hb hr hk (P_old hP ho) hD hS1 (Nat.le_of_ble_eq_true rfl) (Nat.le_of_ble_eq_true rfl) dL_dayOfYear_15

set_option maxRecDepth 100000 in
set_option maxHeartbeats 4000000 in
theorem hG_dayOfYear (l : Launch) (hl9 : l.stackTraces = false) (G : GT) (a : Nat → Nat) (o : Nat) (n : Int64) (sv : Value) (S : SX) (p0 : Int32) (h0 : vp_in p0 6) : HE l G yL_dayOfYear cL_dayOfYear 4 [(0, 10, 13, 25)] 10 0 0 [.ref (a 0), .int p0, .ref o] (wH G a o n sv S) (wH G a o ((fX0_dayOfYear S p0).toInt64) sv S) (0 : Int32) := by
  refine HE.ofW (own := RL) rfl pnN_RL (Nat.le_of_ble_eq_true rfl) ?_
  intro p e s m below meth c A C hr hk hT hN hE hP hD hA hAB hS ls hl
  have hx := C.1
  have hb := C.2.1
  have hown := C.2.2.2.1
  have hw := C.2.2.2.2
  have hl : lv_has ls 4 [(0, .ref (a 0)), (1, .int p0), (2, .ref o)] := hl
  have hPX : va_P (gD G) vwCl (wX G a S) s.heap := P_tail hP
  refine lv_aload_n hx hb dL_dayOfYear_0 rfl (lv_at hl 2 rfl) ?_
  refine lv_aload_n hx hb dL_dayOfYear_1 rfl (lv_at hl 0 rfl) ?_
  refine lv_iload_n hx hb dL_dayOfYear_2 rfl (lv_at hl 1 rfl) ?_
  refine rcVi (as := [.int p0]) (rest := [.ref o]) (cl := RX0) C (c_X0_dayOfYear l G a S p0 h0) F_X0_dayOfYear rfl bw707 bw708 bw709 hE hPX (rv2 hE.K hPX (q0 := 0) rfl) hl.1 dL_dayOfYear_3 ⟨Nat.le_of_ble_eq_true rfl, Nat.le_of_ble_eq_true rfl⟩ rfl (Nat.le_of_ble_eq_true rfl) ⟨Nat.le_of_ble_eq_true rfl, Nat.le_of_ble_eq_true rfl⟩ ?_
  refine lv_i2l (v := ((fX0_dayOfYear S p0).toInt64)) hx hb dL_dayOfYear_6 (by first | rfl | decide) ?_
  refine va_putN (D := gD G) (cl := vwCl) (tys := gT G) (ci := 3) (v := .long ((fX0_dayOfYear S p0).toInt64)) (ty := .long) (C := RX1) (T := TX1) (N := 2) hx hb hw inB_X1 tyX1 tyX1_ok nmX1 hown hE.K hP hD hS 0 rfl rfl 0 (by decide) (va_Nw.use rfl hN.2.1) (fun _ h9 => h9) rfl (by decide +kernel) rfl rfl (Nat.le_of_ble_eq_true rfl) dL_dayOfYear_7 (fun H locs hP hD hS => ?_)
  refine lv_goto (tgt := 16) hx hb dL_dayOfYear_10 (by decide) ?_
  refine lv_iconst (v := (0 : Int32)) hx hb dL_dayOfYear_16 qi_0 ?_
  exact we_h hx hb hr hk hP hD hS (Nat.le_of_ble_eq_true rfl) (Nat.le_of_ble_eq_true rfl) dL_dayOfYear_17

set_option maxRecDepth 100000 in
set_option maxHeartbeats 4000000 in
theorem hI_dayOfWeek (l : Launch) (hl9 : l.stackTraces = false) (G : GT) (a : Nat → Nat) (o : Nat) (n : Int64) (sv : Value) (S : SX) (p0 : Int32) (hbad : ¬ (vp_in p0 6)) : HE l G yL_dayOfWeek cL_dayOfWeek 4 [(0, 10, 13, 25)] 10 1 6 [.ref (a 0), .int p0, .ref o] (wH G a o n sv S) (wH G a o n sv S) (1 : Int32) := by
  refine HE.ofW (own := RL) rfl pnN_RL (Nat.le_of_ble_eq_true rfl) ?_
  intro p e s m below meth c A C hr hk hT hN hE hP hD hA hAB hS ls hl
  have hx := C.1
  have hb := C.2.1
  have hown := C.2.2.2.1
  have hw := C.2.2.2.2
  have hl : lv_has ls 4 [(0, .ref (a 0)), (1, .int p0), (2, .ref o)] := hl
  have hPX : va_P (gD G) vwCl (wX G a S) s.heap := P_tail hP
  refine lv_aload_n hx hb dL_dayOfWeek_0 rfl (lv_at hl 2 rfl) ?_
  refine lv_aload_n hx hb dL_dayOfWeek_1 rfl (lv_at hl 0 rfl) ?_
  refine lv_iload_n hx hb dL_dayOfWeek_2 rfl (lv_at hl 1 rfl) ?_
  refine thV (as := [.int p0]) (rest := [.ref o]) (cl := RX0) C (tI_X0_dayOfWeek l hl9 G a p0 hbad) F_X0_dayOfWeek rfl bw714 bw715 bw716 hE hS hA (rv2 hE.K hPX (q0 := 0) rfl) hl.1 dL_dayOfWeek_3 ⟨Nat.le_of_ble_eq_true rfl, Nat.le_of_ble_eq_true rfl⟩ rfl (Nat.le_of_ble_eq_true rfl) ⟨Nat.le_of_ble_eq_true rfl, Nat.le_of_ble_eq_true rfl⟩ (fun q9 ce H1 locs1 hz ho hS1 hce hcv hcl => ?_)
  refine vx_catch hown [] ⟨0, 10, 13, 25⟩ [] (hT.trans rfl) (fun z hz => nomatch hz) (by decide) (by decide) (hw _ bw382) (castXX (hw _ bw391)) hce hcv hcl ?_
  refine lv_astore_n (lv' := [(3, .ref q9), (0, .ref (a 0)), (1, .int p0), (2, .ref o)]) hx hb dL_dayOfWeek_13 rfl hl (Nat.le_of_ble_eq_true rfl) rfl (fun ls hl => ?_)
  refine lv_iconst (v := (1 : Int32)) hx hb dL_dayOfWeek_14 qi_1 ?_
  exact we_h hx hb hr hk (P_old hP ho) hD hS1 (Nat.le_of_ble_eq_true rfl) (Nat.le_of_ble_eq_true rfl) dL_dayOfWeek_15

set_option maxRecDepth 100000 in
set_option maxHeartbeats 4000000 in
theorem hG_dayOfWeek (l : Launch) (hl9 : l.stackTraces = false) (G : GT) (a : Nat → Nat) (o : Nat) (n : Int64) (sv : Value) (S : SX) (p0 : Int32) (h0 : vp_in p0 6) : HE l G yL_dayOfWeek cL_dayOfWeek 4 [(0, 10, 13, 25)] 10 0 0 [.ref (a 0), .int p0, .ref o] (wH G a o n sv S) (wH G a o ((fX0_dayOfWeek S p0).toInt64) sv S) (0 : Int32) := by
  refine HE.ofW (own := RL) rfl pnN_RL (Nat.le_of_ble_eq_true rfl) ?_
  intro p e s m below meth c A C hr hk hT hN hE hP hD hA hAB hS ls hl
  have hx := C.1
  have hb := C.2.1
  have hown := C.2.2.2.1
  have hw := C.2.2.2.2
  have hl : lv_has ls 4 [(0, .ref (a 0)), (1, .int p0), (2, .ref o)] := hl
  have hPX : va_P (gD G) vwCl (wX G a S) s.heap := P_tail hP
  refine lv_aload_n hx hb dL_dayOfWeek_0 rfl (lv_at hl 2 rfl) ?_
  refine lv_aload_n hx hb dL_dayOfWeek_1 rfl (lv_at hl 0 rfl) ?_
  refine lv_iload_n hx hb dL_dayOfWeek_2 rfl (lv_at hl 1 rfl) ?_
  refine rcVi (as := [.int p0]) (rest := [.ref o]) (cl := RX0) C (c_X0_dayOfWeek l G a S p0 h0) F_X0_dayOfWeek rfl bw714 bw715 bw716 hE hPX (rv2 hE.K hPX (q0 := 0) rfl) hl.1 dL_dayOfWeek_3 ⟨Nat.le_of_ble_eq_true rfl, Nat.le_of_ble_eq_true rfl⟩ rfl (Nat.le_of_ble_eq_true rfl) ⟨Nat.le_of_ble_eq_true rfl, Nat.le_of_ble_eq_true rfl⟩ ?_
  refine lv_i2l (v := ((fX0_dayOfWeek S p0).toInt64)) hx hb dL_dayOfWeek_6 (by first | rfl | decide) ?_
  refine va_putN (D := gD G) (cl := vwCl) (tys := gT G) (ci := 3) (v := .long ((fX0_dayOfWeek S p0).toInt64)) (ty := .long) (C := RX1) (T := TX1) (N := 2) hx hb hw inB_X1 tyX1 tyX1_ok nmX1 hown hE.K hP hD hS 0 rfl rfl 0 (by decide) (va_Nw.use rfl hN.2.1) (fun _ h9 => h9) rfl (by decide +kernel) rfl rfl (Nat.le_of_ble_eq_true rfl) dL_dayOfWeek_7 (fun H locs hP hD hS => ?_)
  refine lv_goto (tgt := 16) hx hb dL_dayOfWeek_10 (by decide) ?_
  refine lv_iconst (v := (0 : Int32)) hx hb dL_dayOfWeek_16 qi_0 ?_
  exact we_h hx hb hr hk hP hD hS (Nat.le_of_ble_eq_true rfl) (Nat.le_of_ble_eq_true rfl) dL_dayOfWeek_17

set_option maxRecDepth 100000 in
set_option maxHeartbeats 4000000 in
theorem hI_hour (l : Launch) (hl9 : l.stackTraces = false) (G : GT) (a : Nat → Nat) (o : Nat) (n : Int64) (sv : Value) (S : SX) (p0 : Int32) (hbad : ¬ (vp_in p0 6)) : HE l G yL_hour cL_hour 4 [(0, 10, 13, 25)] 10 1 6 [.ref (a 0), .int p0, .ref o] (wH G a o n sv S) (wH G a o n sv S) (1 : Int32) := by
  refine HE.ofW (own := RL) rfl pnN_RL (Nat.le_of_ble_eq_true rfl) ?_
  intro p e s m below meth c A C hr hk hT hN hE hP hD hA hAB hS ls hl
  have hx := C.1
  have hb := C.2.1
  have hown := C.2.2.2.1
  have hw := C.2.2.2.2
  have hl : lv_has ls 4 [(0, .ref (a 0)), (1, .int p0), (2, .ref o)] := hl
  have hPX : va_P (gD G) vwCl (wX G a S) s.heap := P_tail hP
  refine lv_aload_n hx hb dL_hour_0 rfl (lv_at hl 2 rfl) ?_
  refine lv_aload_n hx hb dL_hour_1 rfl (lv_at hl 0 rfl) ?_
  refine lv_iload_n hx hb dL_hour_2 rfl (lv_at hl 1 rfl) ?_
  refine thV (as := [.int p0]) (rest := [.ref o]) (cl := RX0) C (tI_X0_hour l hl9 G a p0 hbad) F_X0_hour rfl bw721 bw722 bw723 hE hS hA (rv2 hE.K hPX (q0 := 0) rfl) hl.1 dL_hour_3 ⟨Nat.le_of_ble_eq_true rfl, Nat.le_of_ble_eq_true rfl⟩ rfl (Nat.le_of_ble_eq_true rfl) ⟨Nat.le_of_ble_eq_true rfl, Nat.le_of_ble_eq_true rfl⟩ (fun q9 ce H1 locs1 hz ho hS1 hce hcv hcl => ?_)
  refine vx_catch hown [] ⟨0, 10, 13, 25⟩ [] (hT.trans rfl) (fun z hz => nomatch hz) (by decide) (by decide) (hw _ bw382) (castXX (hw _ bw391)) hce hcv hcl ?_
  refine lv_astore_n (lv' := [(3, .ref q9), (0, .ref (a 0)), (1, .int p0), (2, .ref o)]) hx hb dL_hour_13 rfl hl (Nat.le_of_ble_eq_true rfl) rfl (fun ls hl => ?_)
  refine lv_iconst (v := (1 : Int32)) hx hb dL_hour_14 qi_1 ?_
  exact we_h hx hb hr hk (P_old hP ho) hD hS1 (Nat.le_of_ble_eq_true rfl) (Nat.le_of_ble_eq_true rfl) dL_hour_15

set_option maxRecDepth 100000 in
set_option maxHeartbeats 4000000 in
theorem hG_hour (l : Launch) (hl9 : l.stackTraces = false) (G : GT) (a : Nat → Nat) (o : Nat) (n : Int64) (sv : Value) (S : SX) (p0 : Int32) (h0 : vp_in p0 6) : HE l G yL_hour cL_hour 4 [(0, 10, 13, 25)] 10 0 0 [.ref (a 0), .int p0, .ref o] (wH G a o n sv S) (wH G a o ((fX0_hour S p0).toInt64) sv S) (0 : Int32) := by
  refine HE.ofW (own := RL) rfl pnN_RL (Nat.le_of_ble_eq_true rfl) ?_
  intro p e s m below meth c A C hr hk hT hN hE hP hD hA hAB hS ls hl
  have hx := C.1
  have hb := C.2.1
  have hown := C.2.2.2.1
  have hw := C.2.2.2.2
  have hl : lv_has ls 4 [(0, .ref (a 0)), (1, .int p0), (2, .ref o)] := hl
  have hPX : va_P (gD G) vwCl (wX G a S) s.heap := P_tail hP
  refine lv_aload_n hx hb dL_hour_0 rfl (lv_at hl 2 rfl) ?_
  refine lv_aload_n hx hb dL_hour_1 rfl (lv_at hl 0 rfl) ?_
  refine lv_iload_n hx hb dL_hour_2 rfl (lv_at hl 1 rfl) ?_
  refine rcVi (as := [.int p0]) (rest := [.ref o]) (cl := RX0) C (c_X0_hour l G a S p0 h0) F_X0_hour rfl bw721 bw722 bw723 hE hPX (rv2 hE.K hPX (q0 := 0) rfl) hl.1 dL_hour_3 ⟨Nat.le_of_ble_eq_true rfl, Nat.le_of_ble_eq_true rfl⟩ rfl (Nat.le_of_ble_eq_true rfl) ⟨Nat.le_of_ble_eq_true rfl, Nat.le_of_ble_eq_true rfl⟩ ?_
  refine lv_i2l (v := ((fX0_hour S p0).toInt64)) hx hb dL_hour_6 (by first | rfl | decide) ?_
  refine va_putN (D := gD G) (cl := vwCl) (tys := gT G) (ci := 3) (v := .long ((fX0_hour S p0).toInt64)) (ty := .long) (C := RX1) (T := TX1) (N := 2) hx hb hw inB_X1 tyX1 tyX1_ok nmX1 hown hE.K hP hD hS 0 rfl rfl 0 (by decide) (va_Nw.use rfl hN.2.1) (fun _ h9 => h9) rfl (by decide +kernel) rfl rfl (Nat.le_of_ble_eq_true rfl) dL_hour_7 (fun H locs hP hD hS => ?_)
  refine lv_goto (tgt := 16) hx hb dL_hour_10 (by decide) ?_
  refine lv_iconst (v := (0 : Int32)) hx hb dL_hour_16 qi_0 ?_
  exact we_h hx hb hr hk hP hD hS (Nat.le_of_ble_eq_true rfl) (Nat.le_of_ble_eq_true rfl) dL_hour_17

set_option maxRecDepth 100000 in
set_option maxHeartbeats 4000000 in
theorem hI_minute (l : Launch) (hl9 : l.stackTraces = false) (G : GT) (a : Nat → Nat) (o : Nat) (n : Int64) (sv : Value) (S : SX) (p0 : Int32) (hbad : ¬ (vp_in p0 6)) : HE l G yL_minute cL_minute 4 [(0, 10, 13, 25)] 10 1 6 [.ref (a 0), .int p0, .ref o] (wH G a o n sv S) (wH G a o n sv S) (1 : Int32) := by
  refine HE.ofW (own := RL) rfl pnN_RL (Nat.le_of_ble_eq_true rfl) ?_
  intro p e s m below meth c A C hr hk hT hN hE hP hD hA hAB hS ls hl
  have hx := C.1
  have hb := C.2.1
  have hown := C.2.2.2.1
  have hw := C.2.2.2.2
  have hl : lv_has ls 4 [(0, .ref (a 0)), (1, .int p0), (2, .ref o)] := hl
  have hPX : va_P (gD G) vwCl (wX G a S) s.heap := P_tail hP
  refine lv_aload_n hx hb dL_minute_0 rfl (lv_at hl 2 rfl) ?_
  refine lv_aload_n hx hb dL_minute_1 rfl (lv_at hl 0 rfl) ?_
  refine lv_iload_n hx hb dL_minute_2 rfl (lv_at hl 1 rfl) ?_
  refine thV (as := [.int p0]) (rest := [.ref o]) (cl := RX0) C (tI_X0_minute l hl9 G a p0 hbad) F_X0_minute rfl bw728 bw729 bw730 hE hS hA (rv2 hE.K hPX (q0 := 0) rfl) hl.1 dL_minute_3 ⟨Nat.le_of_ble_eq_true rfl, Nat.le_of_ble_eq_true rfl⟩ rfl (Nat.le_of_ble_eq_true rfl) ⟨Nat.le_of_ble_eq_true rfl, Nat.le_of_ble_eq_true rfl⟩ (fun q9 ce H1 locs1 hz ho hS1 hce hcv hcl => ?_)
  refine vx_catch hown [] ⟨0, 10, 13, 25⟩ [] (hT.trans rfl) (fun z hz => nomatch hz) (by decide) (by decide) (hw _ bw382) (castXX (hw _ bw391)) hce hcv hcl ?_
  refine lv_astore_n (lv' := [(3, .ref q9), (0, .ref (a 0)), (1, .int p0), (2, .ref o)]) hx hb dL_minute_13 rfl hl (Nat.le_of_ble_eq_true rfl) rfl (fun ls hl => ?_)
  refine lv_iconst (v := (1 : Int32)) hx hb dL_minute_14 qi_1 ?_
  exact we_h hx hb hr hk (P_old hP ho) hD hS1 (Nat.le_of_ble_eq_true rfl) (Nat.le_of_ble_eq_true rfl) dL_minute_15

set_option maxRecDepth 100000 in
set_option maxHeartbeats 4000000 in
theorem hG_minute (l : Launch) (hl9 : l.stackTraces = false) (G : GT) (a : Nat → Nat) (o : Nat) (n : Int64) (sv : Value) (S : SX) (p0 : Int32) (h0 : vp_in p0 6) : HE l G yL_minute cL_minute 4 [(0, 10, 13, 25)] 10 0 0 [.ref (a 0), .int p0, .ref o] (wH G a o n sv S) (wH G a o ((fX0_minute S p0).toInt64) sv S) (0 : Int32) := by
  refine HE.ofW (own := RL) rfl pnN_RL (Nat.le_of_ble_eq_true rfl) ?_
  intro p e s m below meth c A C hr hk hT hN hE hP hD hA hAB hS ls hl
  have hx := C.1
  have hb := C.2.1
  have hown := C.2.2.2.1
  have hw := C.2.2.2.2
  have hl : lv_has ls 4 [(0, .ref (a 0)), (1, .int p0), (2, .ref o)] := hl
  have hPX : va_P (gD G) vwCl (wX G a S) s.heap := P_tail hP
  refine lv_aload_n hx hb dL_minute_0 rfl (lv_at hl 2 rfl) ?_
  refine lv_aload_n hx hb dL_minute_1 rfl (lv_at hl 0 rfl) ?_
  refine lv_iload_n hx hb dL_minute_2 rfl (lv_at hl 1 rfl) ?_
  refine rcVi (as := [.int p0]) (rest := [.ref o]) (cl := RX0) C (c_X0_minute l G a S p0 h0) F_X0_minute rfl bw728 bw729 bw730 hE hPX (rv2 hE.K hPX (q0 := 0) rfl) hl.1 dL_minute_3 ⟨Nat.le_of_ble_eq_true rfl, Nat.le_of_ble_eq_true rfl⟩ rfl (Nat.le_of_ble_eq_true rfl) ⟨Nat.le_of_ble_eq_true rfl, Nat.le_of_ble_eq_true rfl⟩ ?_
  refine lv_i2l (v := ((fX0_minute S p0).toInt64)) hx hb dL_minute_6 (by first | rfl | decide) ?_
  refine va_putN (D := gD G) (cl := vwCl) (tys := gT G) (ci := 3) (v := .long ((fX0_minute S p0).toInt64)) (ty := .long) (C := RX1) (T := TX1) (N := 2) hx hb hw inB_X1 tyX1 tyX1_ok nmX1 hown hE.K hP hD hS 0 rfl rfl 0 (by decide) (va_Nw.use rfl hN.2.1) (fun _ h9 => h9) rfl (by decide +kernel) rfl rfl (Nat.le_of_ble_eq_true rfl) dL_minute_7 (fun H locs hP hD hS => ?_)
  refine lv_goto (tgt := 16) hx hb dL_minute_10 (by decide) ?_
  refine lv_iconst (v := (0 : Int32)) hx hb dL_minute_16 qi_0 ?_
  exact we_h hx hb hr hk hP hD hS (Nat.le_of_ble_eq_true rfl) (Nat.le_of_ble_eq_true rfl) dL_minute_17

set_option maxRecDepth 100000 in
set_option maxHeartbeats 4000000 in
theorem hI_second (l : Launch) (hl9 : l.stackTraces = false) (G : GT) (a : Nat → Nat) (o : Nat) (n : Int64) (sv : Value) (S : SX) (p0 : Int32) (hbad : ¬ (vp_in p0 6)) : HE l G yL_second cL_second 4 [(0, 10, 13, 25)] 10 1 6 [.ref (a 0), .int p0, .ref o] (wH G a o n sv S) (wH G a o n sv S) (1 : Int32) := by
  refine HE.ofW (own := RL) rfl pnN_RL (Nat.le_of_ble_eq_true rfl) ?_
  intro p e s m below meth c A C hr hk hT hN hE hP hD hA hAB hS ls hl
  have hx := C.1
  have hb := C.2.1
  have hown := C.2.2.2.1
  have hw := C.2.2.2.2
  have hl : lv_has ls 4 [(0, .ref (a 0)), (1, .int p0), (2, .ref o)] := hl
  have hPX : va_P (gD G) vwCl (wX G a S) s.heap := P_tail hP
  refine lv_aload_n hx hb dL_second_0 rfl (lv_at hl 2 rfl) ?_
  refine lv_aload_n hx hb dL_second_1 rfl (lv_at hl 0 rfl) ?_
  refine lv_iload_n hx hb dL_second_2 rfl (lv_at hl 1 rfl) ?_
  refine thV (as := [.int p0]) (rest := [.ref o]) (cl := RX0) C (tI_X0_second l hl9 G a p0 hbad) F_X0_second rfl bw735 bw736 bw737 hE hS hA (rv2 hE.K hPX (q0 := 0) rfl) hl.1 dL_second_3 ⟨Nat.le_of_ble_eq_true rfl, Nat.le_of_ble_eq_true rfl⟩ rfl (Nat.le_of_ble_eq_true rfl) ⟨Nat.le_of_ble_eq_true rfl, Nat.le_of_ble_eq_true rfl⟩ (fun q9 ce H1 locs1 hz ho hS1 hce hcv hcl => ?_)
  refine vx_catch hown [] ⟨0, 10, 13, 25⟩ [] (hT.trans rfl) (fun z hz => nomatch hz) (by decide) (by decide) (hw _ bw382) (castXX (hw _ bw391)) hce hcv hcl ?_
  refine lv_astore_n (lv' := [(3, .ref q9), (0, .ref (a 0)), (1, .int p0), (2, .ref o)]) hx hb dL_second_13 rfl hl (Nat.le_of_ble_eq_true rfl) rfl (fun ls hl => ?_)
  refine lv_iconst (v := (1 : Int32)) hx hb dL_second_14 qi_1 ?_
  exact we_h hx hb hr hk (P_old hP ho) hD hS1 (Nat.le_of_ble_eq_true rfl) (Nat.le_of_ble_eq_true rfl) dL_second_15

set_option maxRecDepth 100000 in
set_option maxHeartbeats 4000000 in
theorem hG_second (l : Launch) (hl9 : l.stackTraces = false) (G : GT) (a : Nat → Nat) (o : Nat) (n : Int64) (sv : Value) (S : SX) (p0 : Int32) (h0 : vp_in p0 6) : HE l G yL_second cL_second 4 [(0, 10, 13, 25)] 10 0 0 [.ref (a 0), .int p0, .ref o] (wH G a o n sv S) (wH G a o ((fX0_second S p0).toInt64) sv S) (0 : Int32) := by
  refine HE.ofW (own := RL) rfl pnN_RL (Nat.le_of_ble_eq_true rfl) ?_
  intro p e s m below meth c A C hr hk hT hN hE hP hD hA hAB hS ls hl
  have hx := C.1
  have hb := C.2.1
  have hown := C.2.2.2.1
  have hw := C.2.2.2.2
  have hl : lv_has ls 4 [(0, .ref (a 0)), (1, .int p0), (2, .ref o)] := hl
  have hPX : va_P (gD G) vwCl (wX G a S) s.heap := P_tail hP
  refine lv_aload_n hx hb dL_second_0 rfl (lv_at hl 2 rfl) ?_
  refine lv_aload_n hx hb dL_second_1 rfl (lv_at hl 0 rfl) ?_
  refine lv_iload_n hx hb dL_second_2 rfl (lv_at hl 1 rfl) ?_
  refine rcVi (as := [.int p0]) (rest := [.ref o]) (cl := RX0) C (c_X0_second l G a S p0 h0) F_X0_second rfl bw735 bw736 bw737 hE hPX (rv2 hE.K hPX (q0 := 0) rfl) hl.1 dL_second_3 ⟨Nat.le_of_ble_eq_true rfl, Nat.le_of_ble_eq_true rfl⟩ rfl (Nat.le_of_ble_eq_true rfl) ⟨Nat.le_of_ble_eq_true rfl, Nat.le_of_ble_eq_true rfl⟩ ?_
  refine lv_i2l (v := ((fX0_second S p0).toInt64)) hx hb dL_second_6 (by first | rfl | decide) ?_
  refine va_putN (D := gD G) (cl := vwCl) (tys := gT G) (ci := 3) (v := .long ((fX0_second S p0).toInt64)) (ty := .long) (C := RX1) (T := TX1) (N := 2) hx hb hw inB_X1 tyX1 tyX1_ok nmX1 hown hE.K hP hD hS 0 rfl rfl 0 (by decide) (va_Nw.use rfl hN.2.1) (fun _ h9 => h9) rfl (by decide +kernel) rfl rfl (Nat.le_of_ble_eq_true rfl) dL_second_7 (fun H locs hP hD hS => ?_)
  refine lv_goto (tgt := 16) hx hb dL_second_10 (by decide) ?_
  refine lv_iconst (v := (0 : Int32)) hx hb dL_second_16 qi_0 ?_
  exact we_h hx hb hr hk hP hD hS (Nat.le_of_ble_eq_true rfl) (Nat.le_of_ble_eq_true rfl) dL_second_17

set_option maxRecDepth 100000 in
set_option maxHeartbeats 4000000 in
theorem hI_nano (l : Launch) (hl9 : l.stackTraces = false) (G : GT) (a : Nat → Nat) (o : Nat) (n : Int64) (sv : Value) (S : SX) (p0 : Int32) (hbad : ¬ (vp_in p0 6)) : HE l G yL_nano cL_nano 4 [(0, 10, 13, 25)] 10 1 6 [.ref (a 0), .int p0, .ref o] (wH G a o n sv S) (wH G a o n sv S) (1 : Int32) := by
  refine HE.ofW (own := RL) rfl pnN_RL (Nat.le_of_ble_eq_true rfl) ?_
  intro p e s m below meth c A C hr hk hT hN hE hP hD hA hAB hS ls hl
  have hx := C.1
  have hb := C.2.1
  have hown := C.2.2.2.1
  have hw := C.2.2.2.2
  have hl : lv_has ls 4 [(0, .ref (a 0)), (1, .int p0), (2, .ref o)] := hl
  have hPX : va_P (gD G) vwCl (wX G a S) s.heap := P_tail hP
  refine lv_aload_n hx hb dL_nano_0 rfl (lv_at hl 2 rfl) ?_
  refine lv_aload_n hx hb dL_nano_1 rfl (lv_at hl 0 rfl) ?_
  refine lv_iload_n hx hb dL_nano_2 rfl (lv_at hl 1 rfl) ?_
  refine thV (as := [.int p0]) (rest := [.ref o]) (cl := RX0) C (tI_X0_nano l hl9 G a p0 hbad) F_X0_nano rfl bw742 bw743 bw744 hE hS hA (rv2 hE.K hPX (q0 := 0) rfl) hl.1 dL_nano_3 ⟨Nat.le_of_ble_eq_true rfl, Nat.le_of_ble_eq_true rfl⟩ rfl (Nat.le_of_ble_eq_true rfl) ⟨Nat.le_of_ble_eq_true rfl, Nat.le_of_ble_eq_true rfl⟩ (fun q9 ce H1 locs1 hz ho hS1 hce hcv hcl => ?_)
  refine vx_catch hown [] ⟨0, 10, 13, 25⟩ [] (hT.trans rfl) (fun z hz => nomatch hz) (by decide) (by decide) (hw _ bw382) (castXX (hw _ bw391)) hce hcv hcl ?_
  refine lv_astore_n (lv' := [(3, .ref q9), (0, .ref (a 0)), (1, .int p0), (2, .ref o)]) hx hb dL_nano_13 rfl hl (Nat.le_of_ble_eq_true rfl) rfl (fun ls hl => ?_)
  refine lv_iconst (v := (1 : Int32)) hx hb dL_nano_14 qi_1 ?_
  exact we_h hx hb hr hk (P_old hP ho) hD hS1 (Nat.le_of_ble_eq_true rfl) (Nat.le_of_ble_eq_true rfl) dL_nano_15

set_option maxRecDepth 100000 in
set_option maxHeartbeats 4000000 in
theorem hG_nano (l : Launch) (hl9 : l.stackTraces = false) (G : GT) (a : Nat → Nat) (o : Nat) (n : Int64) (sv : Value) (S : SX) (p0 : Int32) (h0 : vp_in p0 6) : HE l G yL_nano cL_nano 4 [(0, 10, 13, 25)] 10 0 0 [.ref (a 0), .int p0, .ref o] (wH G a o n sv S) (wH G a o ((fX0_nano S p0).toInt64) sv S) (0 : Int32) := by
  refine HE.ofW (own := RL) rfl pnN_RL (Nat.le_of_ble_eq_true rfl) ?_
  intro p e s m below meth c A C hr hk hT hN hE hP hD hA hAB hS ls hl
  have hx := C.1
  have hb := C.2.1
  have hown := C.2.2.2.1
  have hw := C.2.2.2.2
  have hl : lv_has ls 4 [(0, .ref (a 0)), (1, .int p0), (2, .ref o)] := hl
  have hPX : va_P (gD G) vwCl (wX G a S) s.heap := P_tail hP
  refine lv_aload_n hx hb dL_nano_0 rfl (lv_at hl 2 rfl) ?_
  refine lv_aload_n hx hb dL_nano_1 rfl (lv_at hl 0 rfl) ?_
  refine lv_iload_n hx hb dL_nano_2 rfl (lv_at hl 1 rfl) ?_
  refine rcVi (as := [.int p0]) (rest := [.ref o]) (cl := RX0) C (c_X0_nano l G a S p0 h0) F_X0_nano rfl bw742 bw743 bw744 hE hPX (rv2 hE.K hPX (q0 := 0) rfl) hl.1 dL_nano_3 ⟨Nat.le_of_ble_eq_true rfl, Nat.le_of_ble_eq_true rfl⟩ rfl (Nat.le_of_ble_eq_true rfl) ⟨Nat.le_of_ble_eq_true rfl, Nat.le_of_ble_eq_true rfl⟩ ?_
  refine lv_i2l (v := ((fX0_nano S p0).toInt64)) hx hb dL_nano_6 (by first | rfl | decide) ?_
  refine va_putN (D := gD G) (cl := vwCl) (tys := gT G) (ci := 3) (v := .long ((fX0_nano S p0).toInt64)) (ty := .long) (C := RX1) (T := TX1) (N := 2) hx hb hw inB_X1 tyX1 tyX1_ok nmX1 hown hE.K hP hD hS 0 rfl rfl 0 (by decide) (va_Nw.use rfl hN.2.1) (fun _ h9 => h9) rfl (by decide +kernel) rfl rfl (Nat.le_of_ble_eq_true rfl) dL_nano_7 (fun H locs hP hD hS => ?_)
  refine lv_goto (tgt := 16) hx hb dL_nano_10 (by decide) ?_
  refine lv_iconst (v := (0 : Int32)) hx hb dL_nano_16 qi_0 ?_
  exact we_h hx hb hr hk hP hD hS (Nat.le_of_ble_eq_true rfl) (Nat.le_of_ble_eq_true rfl) dL_nano_17

set_option maxRecDepth 100000 in
set_option maxHeartbeats 4000000 in
theorem hI_day (l : Launch) (hl9 : l.stackTraces = false) (G : GT) (a : Nat → Nat) (o : Nat) (n : Int64) (sv : Value) (S : SX) (p0 : Int32) (hbad : ¬ (vp_in p0 6)) : HE l G yL_day cL_day 4 [(0, 10, 13, 25)] 10 1 6 [.ref (a 0), .int p0, .ref o] (wH G a o n sv S) (wH G a o n sv S) (1 : Int32) := by
  refine HE.ofW (own := RL) rfl pnN_RL (Nat.le_of_ble_eq_true rfl) ?_
  intro p e s m below meth c A C hr hk hT hN hE hP hD hA hAB hS ls hl
  have hx := C.1
  have hb := C.2.1
  have hown := C.2.2.2.1
  have hw := C.2.2.2.2
  have hl : lv_has ls 4 [(0, .ref (a 0)), (1, .int p0), (2, .ref o)] := hl
  have hPX : va_P (gD G) vwCl (wX G a S) s.heap := P_tail hP
  refine lv_aload_n hx hb dL_day_0 rfl (lv_at hl 2 rfl) ?_
  refine lv_aload_n hx hb dL_day_1 rfl (lv_at hl 0 rfl) ?_
  refine lv_iload_n hx hb dL_day_2 rfl (lv_at hl 1 rfl) ?_
  refine thV (as := [.int p0]) (rest := [.ref o]) (cl := RX0) C (tI_X0_day l hl9 G a p0 hbad) F_X0_day rfl bw749 bw750 bw751 hE hS hA (rv2 hE.K hPX (q0 := 0) rfl) hl.1 dL_day_3 ⟨Nat.le_of_ble_eq_true rfl, Nat.le_of_ble_eq_true rfl⟩ rfl (Nat.le_of_ble_eq_true rfl) ⟨Nat.le_of_ble_eq_true rfl, Nat.le_of_ble_eq_true rfl⟩ (fun q9 ce H1 locs1 hz ho hS1 hce hcv hcl => ?_)
  refine vx_catch hown [] ⟨0, 10, 13, 25⟩ [] (hT.trans rfl) (fun z hz => nomatch hz) (by decide) (by decide) (hw _ bw382) (castXX (hw _ bw391)) hce hcv hcl ?_
  refine lv_astore_n (lv' := [(3, .ref q9), (0, .ref (a 0)), (1, .int p0), (2, .ref o)]) hx hb dL_day_13 rfl hl (Nat.le_of_ble_eq_true rfl) rfl (fun ls hl => ?_)
  refine lv_iconst (v := (1 : Int32)) hx hb dL_day_14 qi_1 ?_
  exact we_h hx hb hr hk (P_old hP ho) hD hS1 (Nat.le_of_ble_eq_true rfl) (Nat.le_of_ble_eq_true rfl) dL_day_15

set_option maxRecDepth 100000 in
set_option maxHeartbeats 4000000 in
theorem hG_day (l : Launch) (hl9 : l.stackTraces = false) (G : GT) (a : Nat → Nat) (o : Nat) (n : Int64) (sv : Value) (S : SX) (p0 : Int32) (h0 : vp_in p0 6) : HE l G yL_day cL_day 4 [(0, 10, 13, 25)] 10 0 0 [.ref (a 0), .int p0, .ref o] (wH G a o n sv S) (wH G a o ((fX0_day S p0).toInt64) sv S) (0 : Int32) := by
  refine HE.ofW (own := RL) rfl pnN_RL (Nat.le_of_ble_eq_true rfl) ?_
  intro p e s m below meth c A C hr hk hT hN hE hP hD hA hAB hS ls hl
  have hx := C.1
  have hb := C.2.1
  have hown := C.2.2.2.1
  have hw := C.2.2.2.2
  have hl : lv_has ls 4 [(0, .ref (a 0)), (1, .int p0), (2, .ref o)] := hl
  have hPX : va_P (gD G) vwCl (wX G a S) s.heap := P_tail hP
  refine lv_aload_n hx hb dL_day_0 rfl (lv_at hl 2 rfl) ?_
  refine lv_aload_n hx hb dL_day_1 rfl (lv_at hl 0 rfl) ?_
  refine lv_iload_n hx hb dL_day_2 rfl (lv_at hl 1 rfl) ?_
  refine rcVi (as := [.int p0]) (rest := [.ref o]) (cl := RX0) C (c_X0_day l G a S p0 h0) F_X0_day rfl bw749 bw750 bw751 hE hPX (rv2 hE.K hPX (q0 := 0) rfl) hl.1 dL_day_3 ⟨Nat.le_of_ble_eq_true rfl, Nat.le_of_ble_eq_true rfl⟩ rfl (Nat.le_of_ble_eq_true rfl) ⟨Nat.le_of_ble_eq_true rfl, Nat.le_of_ble_eq_true rfl⟩ ?_
  refine lv_i2l (v := ((fX0_day S p0).toInt64)) hx hb dL_day_6 (by first | rfl | decide) ?_
  refine va_putN (D := gD G) (cl := vwCl) (tys := gT G) (ci := 3) (v := .long ((fX0_day S p0).toInt64)) (ty := .long) (C := RX1) (T := TX1) (N := 2) hx hb hw inB_X1 tyX1 tyX1_ok nmX1 hown hE.K hP hD hS 0 rfl rfl 0 (by decide) (va_Nw.use rfl hN.2.1) (fun _ h9 => h9) rfl (by decide +kernel) rfl rfl (Nat.le_of_ble_eq_true rfl) dL_day_7 (fun H locs hP hD hS => ?_)
  refine lv_goto (tgt := 16) hx hb dL_day_10 (by decide) ?_
  refine lv_iconst (v := (0 : Int32)) hx hb dL_day_16 qi_0 ?_
  exact we_h hx hb hr hk hP hD hS (Nat.le_of_ble_eq_true rfl) (Nat.le_of_ble_eq_true rfl) dL_day_17

set_option maxRecDepth 100000 in
set_option maxHeartbeats 4000000 in
theorem hI_secondOfDay (l : Launch) (hl9 : l.stackTraces = false) (G : GT) (a : Nat → Nat) (o : Nat) (n : Int64) (sv : Value) (S : SX) (p0 : Int32) (hbad : ¬ (vp_in p0 6)) : HE l G yL_secondOfDay cL_secondOfDay 4 [(0, 10, 13, 25)] 10 1 6 [.ref (a 0), .int p0, .ref o] (wH G a o n sv S) (wH G a o n sv S) (1 : Int32) := by
  refine HE.ofW (own := RL) rfl pnN_RL (Nat.le_of_ble_eq_true rfl) ?_
  intro p e s m below meth c A C hr hk hT hN hE hP hD hA hAB hS ls hl
  have hx := C.1
  have hb := C.2.1
  have hown := C.2.2.2.1
  have hw := C.2.2.2.2
  have hl : lv_has ls 4 [(0, .ref (a 0)), (1, .int p0), (2, .ref o)] := hl
  have hPX : va_P (gD G) vwCl (wX G a S) s.heap := P_tail hP
  refine lv_aload_n hx hb dL_secondOfDay_0 rfl (lv_at hl 2 rfl) ?_
  refine lv_aload_n hx hb dL_secondOfDay_1 rfl (lv_at hl 0 rfl) ?_
  refine lv_iload_n hx hb dL_secondOfDay_2 rfl (lv_at hl 1 rfl) ?_
  refine thV (as := [.int p0]) (rest := [.ref o]) (cl := RX0) C (tI_X0_secondOfDay l hl9 G a p0 hbad) F_X0_secondOfDay rfl bw756 bw757 bw758 hE hS hA (rv2 hE.K hPX (q0 := 0) rfl) hl.1 dL_secondOfDay_3 ⟨Nat.le_of_ble_eq_true rfl, Nat.le_of_ble_eq_true rfl⟩ rfl (Nat.le_of_ble_eq_true rfl) ⟨Nat.le_of_ble_eq_true rfl, Nat.le_of_ble_eq_true rfl⟩ (fun q9 ce H1 locs1 hz ho hS1 hce hcv hcl => ?_)
  refine vx_catch hown [] ⟨0, 10, 13, 25⟩ [] (hT.trans rfl) (fun z hz => nomatch hz) (by decide) (by decide) (hw _ bw382) (castXX (hw _ bw391)) hce hcv hcl ?_
  refine lv_astore_n (lv' := [(3, .ref q9), (0, .ref (a 0)), (1, .int p0), (2, .ref o)]) hx hb dL_secondOfDay_13 rfl hl (Nat.le_of_ble_eq_true rfl) rfl (fun ls hl => ?_)
  refine lv_iconst (v := (1 : Int32)) hx hb dL_secondOfDay_14 qi_1 ?_
  exact we_h hx hb hr hk (P_old hP ho) hD hS1 (Nat.le_of_ble_eq_true rfl) (Nat.le_of_ble_eq_true rfl) dL_secondOfDay_15

set_option maxRecDepth 100000 in
set_option maxHeartbeats 4000000 in
theorem hG_secondOfDay (l : Launch) (hl9 : l.stackTraces = false) (G : GT) (a : Nat → Nat) (o : Nat) (n : Int64) (sv : Value) (S : SX) (p0 : Int32) (h0 : vp_in p0 6) : HE l G yL_secondOfDay cL_secondOfDay 4 [(0, 10, 13, 25)] 10 0 0 [.ref (a 0), .int p0, .ref o] (wH G a o n sv S) (wH G a o ((fX0_secondOfDay S p0).toInt64) sv S) (0 : Int32) := by
  refine HE.ofW (own := RL) rfl pnN_RL (Nat.le_of_ble_eq_true rfl) ?_
  intro p e s m below meth c A C hr hk hT hN hE hP hD hA hAB hS ls hl
  have hx := C.1
  have hb := C.2.1
  have hown := C.2.2.2.1
  have hw := C.2.2.2.2
  have hl : lv_has ls 4 [(0, .ref (a 0)), (1, .int p0), (2, .ref o)] := hl
  have hPX : va_P (gD G) vwCl (wX G a S) s.heap := P_tail hP
  refine lv_aload_n hx hb dL_secondOfDay_0 rfl (lv_at hl 2 rfl) ?_
  refine lv_aload_n hx hb dL_secondOfDay_1 rfl (lv_at hl 0 rfl) ?_
  refine lv_iload_n hx hb dL_secondOfDay_2 rfl (lv_at hl 1 rfl) ?_
  refine rcVi (as := [.int p0]) (rest := [.ref o]) (cl := RX0) C (c_X0_secondOfDay l G a S p0 h0) F_X0_secondOfDay rfl bw756 bw757 bw758 hE hPX (rv2 hE.K hPX (q0 := 0) rfl) hl.1 dL_secondOfDay_3 ⟨Nat.le_of_ble_eq_true rfl, Nat.le_of_ble_eq_true rfl⟩ rfl (Nat.le_of_ble_eq_true rfl) ⟨Nat.le_of_ble_eq_true rfl, Nat.le_of_ble_eq_true rfl⟩ ?_
  refine lv_i2l (v := ((fX0_secondOfDay S p0).toInt64)) hx hb dL_secondOfDay_6 (by first | rfl | decide) ?_
  refine va_putN (D := gD G) (cl := vwCl) (tys := gT G) (ci := 3) (v := .long ((fX0_secondOfDay S p0).toInt64)) (ty := .long) (C := RX1) (T := TX1) (N := 2) hx hb hw inB_X1 tyX1 tyX1_ok nmX1 hown hE.K hP hD hS 0 rfl rfl 0 (by decide) (va_Nw.use rfl hN.2.1) (fun _ h9 => h9) rfl (by decide +kernel) rfl rfl (Nat.le_of_ble_eq_true rfl) dL_secondOfDay_7 (fun H locs hP hD hS => ?_)
  refine lv_goto (tgt := 16) hx hb dL_secondOfDay_10 (by decide) ?_
  refine lv_iconst (v := (0 : Int32)) hx hb dL_secondOfDay_16 qi_0 ?_
  exact we_h hx hb hr hk hP hD hS (Nat.le_of_ble_eq_true rfl) (Nat.le_of_ble_eq_true rfl) dL_secondOfDay_17

set_option maxRecDepth 100000 in
set_option maxHeartbeats 4000000 in
theorem hI_lengthOfMonth (l : Launch) (hl9 : l.stackTraces = false) (G : GT) (a : Nat → Nat) (o : Nat) (n : Int64) (sv : Value) (S : SX) (p0 : Int32) (hbad : ¬ (vp_in p0 6)) : HE l G yL_lengthOfMonth cL_lengthOfMonth 4 [(0, 10, 13, 25)] 10 1 6 [.ref (a 0), .int p0, .ref o] (wH G a o n sv S) (wH G a o n sv S) (1 : Int32) := by
  refine HE.ofW (own := RL) rfl pnN_RL (Nat.le_of_ble_eq_true rfl) ?_
  intro p e s m below meth c A C hr hk hT hN hE hP hD hA hAB hS ls hl
  have hx := C.1
  have hb := C.2.1
  have hown := C.2.2.2.1
  have hw := C.2.2.2.2
  have hl : lv_has ls 4 [(0, .ref (a 0)), (1, .int p0), (2, .ref o)] := hl
  have hPX : va_P (gD G) vwCl (wX G a S) s.heap := P_tail hP
  refine lv_aload_n hx hb dL_lengthOfMonth_0 rfl (lv_at hl 2 rfl) ?_
  refine lv_aload_n hx hb dL_lengthOfMonth_1 rfl (lv_at hl 0 rfl) ?_
  refine lv_iload_n hx hb dL_lengthOfMonth_2 rfl (lv_at hl 1 rfl) ?_
  refine thV (as := [.int p0]) (rest := [.ref o]) (cl := RX0) C (tI_X0_lengthOfMonth l hl9 G a p0 hbad) F_X0_lengthOfMonth rfl bw763 bw764 bw765 hE hS hA (rv2 hE.K hPX (q0 := 0) rfl) hl.1 dL_lengthOfMonth_3 ⟨Nat.le_of_ble_eq_true rfl, Nat.le_of_ble_eq_true rfl⟩ rfl (Nat.le_of_ble_eq_true rfl) ⟨Nat.le_of_ble_eq_true rfl, Nat.le_of_ble_eq_true rfl⟩ (fun q9 ce H1 locs1 hz ho hS1 hce hcv hcl => ?_)
  refine vx_catch hown [] ⟨0, 10, 13, 25⟩ [] (hT.trans rfl) (fun z hz => nomatch hz) (by decide) (by decide) (hw _ bw382) (castXX (hw _ bw391)) hce hcv hcl ?_
  refine lv_astore_n (lv' := [(3, .ref q9), (0, .ref (a 0)), (1, .int p0), (2, .ref o)]) hx hb dL_lengthOfMonth_13 rfl hl (Nat.le_of_ble_eq_true rfl) rfl (fun ls hl => ?_)
  refine lv_iconst (v := (1 : Int32)) hx hb dL_lengthOfMonth_14 qi_1 ?_
  exact we_h hx hb hr hk (P_old hP ho) hD hS1 (Nat.le_of_ble_eq_true rfl) (Nat.le_of_ble_eq_true rfl) dL_lengthOfMonth_15

set_option maxRecDepth 100000 in
set_option maxHeartbeats 4000000 in
theorem hG_lengthOfMonth (l : Launch) (hl9 : l.stackTraces = false) (G : GT) (a : Nat → Nat) (o : Nat) (n : Int64) (sv : Value) (S : SX) (p0 : Int32) (h0 : vp_in p0 6) : HE l G yL_lengthOfMonth cL_lengthOfMonth 4 [(0, 10, 13, 25)] 10 0 0 [.ref (a 0), .int p0, .ref o] (wH G a o n sv S) (wH G a o ((fX0_lengthOfMonth S p0).toInt64) sv S) (0 : Int32) := by
  refine HE.ofW (own := RL) rfl pnN_RL (Nat.le_of_ble_eq_true rfl) ?_
  intro p e s m below meth c A C hr hk hT hN hE hP hD hA hAB hS ls hl
  have hx := C.1
  have hb := C.2.1
  have hown := C.2.2.2.1
  have hw := C.2.2.2.2
  have hl : lv_has ls 4 [(0, .ref (a 0)), (1, .int p0), (2, .ref o)] := hl
  have hPX : va_P (gD G) vwCl (wX G a S) s.heap := P_tail hP
  refine lv_aload_n hx hb dL_lengthOfMonth_0 rfl (lv_at hl 2 rfl) ?_
  refine lv_aload_n hx hb dL_lengthOfMonth_1 rfl (lv_at hl 0 rfl) ?_
  refine lv_iload_n hx hb dL_lengthOfMonth_2 rfl (lv_at hl 1 rfl) ?_
  refine rcVi (as := [.int p0]) (rest := [.ref o]) (cl := RX0) C (c_X0_lengthOfMonth l G a S p0 h0) F_X0_lengthOfMonth rfl bw763 bw764 bw765 hE hPX (rv2 hE.K hPX (q0 := 0) rfl) hl.1 dL_lengthOfMonth_3 ⟨Nat.le_of_ble_eq_true rfl, Nat.le_of_ble_eq_true rfl⟩ rfl (Nat.le_of_ble_eq_true rfl) ⟨Nat.le_of_ble_eq_true rfl, Nat.le_of_ble_eq_true rfl⟩ ?_
  refine lv_i2l (v := ((fX0_lengthOfMonth S p0).toInt64)) hx hb dL_lengthOfMonth_6 (by first | rfl | decide) ?_
  refine va_putN (D := gD G) (cl := vwCl) (tys := gT G) (ci := 3) (v := .long ((fX0_lengthOfMonth S p0).toInt64)) (ty := .long) (C := RX1) (T := TX1) (N := 2) hx hb hw inB_X1 tyX1 tyX1_ok nmX1 hown hE.K hP hD hS 0 rfl rfl 0 (by decide) (va_Nw.use rfl hN.2.1) (fun _ h9 => h9) rfl (by decide +kernel) rfl rfl (Nat.le_of_ble_eq_true rfl) dL_lengthOfMonth_7 (fun H locs hP hD hS => ?_)
  refine lv_goto (tgt := 16) hx hb dL_lengthOfMonth_10 (by decide) ?_
  refine lv_iconst (v := (0 : Int32)) hx hb dL_lengthOfMonth_16 qi_0 ?_
  exact we_h hx hb hr hk hP hD hS (Nat.le_of_ble_eq_true rfl) (Nat.le_of_ble_eq_true rfl) dL_lengthOfMonth_17

set_option maxRecDepth 100000 in
set_option maxHeartbeats 4000000 in
theorem hI_nanoOfDay (l : Launch) (hl9 : l.stackTraces = false) (G : GT) (a : Nat → Nat) (o : Nat) (n : Int64) (sv : Value) (S : SX) (p0 : Int32) (hbad : ¬ (vp_in p0 6)) : HE l G yL_nanoOfDay cL_nanoOfDay 4 [(0, 9, 12, 25)] 10 1 6 [.ref (a 0), .int p0, .ref o] (wH G a o n sv S) (wH G a o n sv S) (1 : Int32) := by
  refine HE.ofW (own := RL) rfl pnN_RL (Nat.le_of_ble_eq_true rfl) ?_
  intro p e s m below meth c A C hr hk hT hN hE hP hD hA hAB hS ls hl
  have hx := C.1
  have hb := C.2.1
  have hown := C.2.2.2.1
  have hw := C.2.2.2.2
  have hl : lv_has ls 4 [(0, .ref (a 0)), (1, .int p0), (2, .ref o)] := hl
  have hPX : va_P (gD G) vwCl (wX G a S) s.heap := P_tail hP
  refine lv_aload_n hx hb dL_nanoOfDay_0 rfl (lv_at hl 2 rfl) ?_
  refine lv_aload_n hx hb dL_nanoOfDay_1 rfl (lv_at hl 0 rfl) ?_
  refine lv_iload_n hx hb dL_nanoOfDay_2 rfl (lv_at hl 1 rfl) ?_
  refine thV (as := [.int p0]) (rest := [.ref o]) (cl := RX0) C (tI_X0_nanoOfDay l hl9 G a p0 hbad) F_X0_nanoOfDay rfl bw770 bw771 bw772 hE hS hA (rv2 hE.K hPX (q0 := 0) rfl) hl.1 dL_nanoOfDay_3 ⟨Nat.le_of_ble_eq_true rfl, Nat.le_of_ble_eq_true rfl⟩ rfl (Nat.le_of_ble_eq_true rfl) ⟨Nat.le_of_ble_eq_true rfl, Nat.le_of_ble_eq_true rfl⟩ (fun q9 ce H1 locs1 hz ho hS1 hce hcv hcl => ?_)
  refine vx_catch hown [] ⟨0, 9, 12, 25⟩ [] (hT.trans rfl) (fun z hz => nomatch hz) (by decide) (by decide) (hw _ bw382) (castXX (hw _ bw391)) hce hcv hcl ?_
  refine lv_astore_n (lv' := [(3, .ref q9), (0, .ref (a 0)), (1, .int p0), (2, .ref o)]) hx hb dL_nanoOfDay_12 rfl hl (Nat.le_of_ble_eq_true rfl) rfl (fun ls hl => ?_)
  refine lv_iconst (v := (1 : Int32)) hx hb dL_nanoOfDay_13 qi_1 ?_
  exact we_h hx hb hr hk (P_old hP ho) hD hS1 (Nat.le_of_ble_eq_true rfl) (Nat.le_of_ble_eq_true rfl) dL_nanoOfDay_14

set_option maxRecDepth 100000 in
set_option maxHeartbeats 4000000 in
theorem hI_isLeap (l : Launch) (hl9 : l.stackTraces = false) (G : GT) (a : Nat → Nat) (o : Nat) (n : Int64) (sv : Value) (S : SX) (p0 : Int32) (hbad : ¬ (vp_in p0 6)) : HE l G yL_isLeap cL_isLeap 4 [(0, 17, 20, 25)] 10 1 6 [.ref (a 0), .int p0, .ref o] (wH G a o n sv S) (wH G a o n sv S) (1 : Int32) := by
  refine HE.ofW (own := RL) rfl pnN_RL (Nat.le_of_ble_eq_true rfl) ?_
  intro p e s m below meth c A C hr hk hT hN hE hP hD hA hAB hS ls hl
  have hx := C.1
  have hb := C.2.1
  have hown := C.2.2.2.1
  have hw := C.2.2.2.2
  have hl : lv_has ls 4 [(0, .ref (a 0)), (1, .int p0), (2, .ref o)] := hl
  have hPX : va_P (gD G) vwCl (wX G a S) s.heap := P_tail hP
  refine lv_aload_n hx hb dL_isLeap_0 rfl (lv_at hl 2 rfl) ?_
  refine lv_aload_n hx hb dL_isLeap_1 rfl (lv_at hl 0 rfl) ?_
  refine lv_iload_n hx hb dL_isLeap_2 rfl (lv_at hl 1 rfl) ?_
  refine thV (as := [.int p0]) (rest := [.ref o]) (cl := RX0) C (tI_X0_isLeap l hl9 G a p0 hbad) F_X0_isLeap rfl bw1077 bw1078 bw1079 hE hS hA (rv2 hE.K hPX (q0 := 0) rfl) hl.1 dL_isLeap_3 ⟨Nat.le_of_ble_eq_true rfl, Nat.le_of_ble_eq_true rfl⟩ rfl (Nat.le_of_ble_eq_true rfl) ⟨Nat.le_of_ble_eq_true rfl, Nat.le_of_ble_eq_true rfl⟩ (fun q9 ce H1 locs1 hz ho hS1 hce hcv hcl => ?_)
  refine vx_catch hown [] ⟨0, 17, 20, 25⟩ [] (hT.trans rfl) (fun z hz => nomatch hz) (by decide) (by decide) (hw _ bw382) (castXX (hw _ bw391)) hce hcv hcl ?_
  refine lv_astore_n (lv' := [(3, .ref q9), (0, .ref (a 0)), (1, .int p0), (2, .ref o)]) hx hb dL_isLeap_20 rfl hl (Nat.le_of_ble_eq_true rfl) rfl (fun ls hl => ?_)
  refine lv_iconst (v := (1 : Int32)) hx hb dL_isLeap_21 qi_1 ?_
  exact we_h hx hb hr hk (P_old hP ho) hD hS1 (Nat.le_of_ble_eq_true rfl) (Nat.le_of_ble_eq_true rfl) dL_isLeap_22

set_option maxRecDepth 100000 in
set_option maxHeartbeats 4000000 in
theorem hG_isLeap (l : Launch) (hl9 : l.stackTraces = false) (G : GT) (a : Nat → Nat) (o : Nat) (n : Int64) (sv : Value) (S : SX) (p0 : Int32) (h0 : vp_in p0 6) : HE l G yL_isLeap cL_isLeap 4 [(0, 17, 20, 25)] 10 0 0 [.ref (a 0), .int p0, .ref o] (wH G a o n sv S) (wH G a o (fz9 (fX0_isLeap S p0)) sv S) (0 : Int32) := by
  refine HE.ofW (own := RL) rfl pnN_RL (Nat.le_of_ble_eq_true rfl) ?_
  intro p e s m below meth c A C hr hk hT hN hE hP hD hA hAB hS ls hl
  have hx := C.1
  have hb := C.2.1
  have hown := C.2.2.2.1
  have hw := C.2.2.2.2
  have hl : lv_has ls 4 [(0, .ref (a 0)), (1, .int p0), (2, .ref o)] := hl
  have hPX : va_P (gD G) vwCl (wX G a S) s.heap := P_tail hP
  refine lv_aload_n hx hb dL_isLeap_0 rfl (lv_at hl 2 rfl) ?_
  refine lv_aload_n hx hb dL_isLeap_1 rfl (lv_at hl 0 rfl) ?_
  refine lv_iload_n hx hb dL_isLeap_2 rfl (lv_at hl 1 rfl) ?_
  refine rcVi (as := [.int p0]) (rest := [.ref o]) (cl := RX0) C (c_X0_isLeap l G a S p0 h0) F_X0_isLeap rfl bw1077 bw1078 bw1079 hE hPX (rv2 hE.K hPX (q0 := 0) rfl) hl.1 dL_isLeap_3 ⟨Nat.le_of_ble_eq_true rfl, Nat.le_of_ble_eq_true rfl⟩ rfl (Nat.le_of_ble_eq_true rfl) ⟨Nat.le_of_ble_eq_true rfl, Nat.le_of_ble_eq_true rfl⟩ ?_
  refine lv_if_eq (tgt := 13) hx hb dL_isLeap_6 (by decide) (fun c_1 => ?_) (fun c_1 => ?_)
  · refine lv_lconst (v := (0 : Int64)) hx hb dL_isLeap_13 ql_0 ?_
    refine va_putN (D := gD G) (cl := vwCl) (tys := gT G) (ci := 3) (v := .long (0 : Int64)) (ty := .long) (C := RX1) (T := TX1) (N := 2) hx hb hw inB_X1 tyX1 tyX1_ok nmX1 hown hE.K hP hD hS 0 rfl rfl 0 (by decide) (va_Nw.use rfl hN.2.1) (fun _ h9 => h9) rfl (by decide +kernel) rfl rfl (Nat.le_of_ble_eq_true rfl) dL_isLeap_14 (fun H locs hP hD hS => ?_)
    refine lv_goto (tgt := 23) hx hb dL_isLeap_17 (by decide) ?_
    refine lv_iconst (v := (0 : Int32)) hx hb dL_isLeap_23 qi_0 ?_
    rw [show fz9 (fX0_isLeap S p0) = 0 from if_pos c_1]
    exact we_h hx hb hr hk hP hD hS (Nat.le_of_ble_eq_true rfl) (Nat.le_of_ble_eq_true rfl) dL_isLeap_24
  · refine lv_lconst (v := (1 : Int64)) hx hb dL_isLeap_9 ql_1 ?_
    refine lv_goto (tgt := 14) hx hb dL_isLeap_10 (by decide) ?_
    refine va_putN (D := gD G) (cl := vwCl) (tys := gT G) (ci := 3) (v := .long (1 : Int64)) (ty := .long) (C := RX1) (T := TX1) (N := 2) hx hb hw inB_X1 tyX1 tyX1_ok nmX1 hown hE.K hP hD hS 0 rfl rfl 0 (by decide) (va_Nw.use rfl hN.2.1) (fun _ h9 => h9) rfl (by decide +kernel) rfl rfl (Nat.le_of_ble_eq_true rfl) dL_isLeap_14 (fun H locs hP hD hS => ?_)
    refine lv_goto (tgt := 23) hx hb dL_isLeap_17 (by decide) ?_
    refine lv_iconst (v := (0 : Int32)) hx hb dL_isLeap_23 qi_0 ?_
    rw [show fz9 (fX0_isLeap S p0) = 1 from if_neg c_1]
    exact we_h hx hb hr hk hP hD hS (Nat.le_of_ble_eq_true rfl) (Nat.le_of_ble_eq_true rfl) dL_isLeap_24

set_option maxRecDepth 100000 in
set_option maxHeartbeats 4000000 in
theorem hI_field (l : Launch) (hl9 : l.stackTraces = false) (G : GT) (a : Nat → Nat) (o : Nat) (n : Int64) (sv : Value) (S : SX) (p0 : Int32) (p1 : Int32) (hbad : ¬ (vp_in p0 6)) : HE l G yL_field cL_field 5 [(0, 10, 13, 25), (0, 10, 17, 19)] 10 1 6 [.ref (a 0), .int p0, .int p1, .ref o] (wH G a o n sv S) (wH G a o n sv S) (1 : Int32) := by
  refine HE.ofW (own := RL) rfl pnN_RL (Nat.le_of_ble_eq_true rfl) ?_
  intro p e s m below meth c A C hr hk hT hN hE hP hD hA hAB hS ls hl
  have hx := C.1
  have hb := C.2.1
  have hown := C.2.2.2.1
  have hw := C.2.2.2.2
  have hl : lv_has ls 5 [(0, .ref (a 0)), (1, .int p0), (2, .int p1), (3, .ref o)] := hl
  have hPX : va_P (gD G) vwCl (wX G a S) s.heap := P_tail hP
  refine lv_aload_n hx hb dL_field_0 rfl (lv_at hl 3 rfl) ?_
  refine lv_aload_n hx hb dL_field_1 rfl (lv_at hl 0 rfl) ?_
  refine lv_iload_n hx hb dL_field_2 rfl (lv_at hl 1 rfl) ?_
  refine lv_iload_n hx hb dL_field_3 rfl (lv_at hl 2 rfl) ?_
  refine thV (as := [.int p0, .int p1]) (rest := [.ref o]) (cl := RX0) C (tI_X0_field l hl9 G a p0 p1 hbad) F_X0_field rfl bw1084 bw1085 bw1086 hE hS hA (rv2 hE.K hPX (q0 := 0) rfl) hl.1 dL_field_4 ⟨Nat.le_of_ble_eq_true rfl, Nat.le_of_ble_eq_true rfl⟩ rfl (Nat.le_of_ble_eq_true rfl) ⟨Nat.le_of_ble_eq_true rfl, Nat.le_of_ble_eq_true rfl⟩ (fun q9 ce H1 locs1 hz ho hS1 hce hcv hcl => ?_)
  refine vx_catch hown [] ⟨0, 10, 13, 25⟩ [⟨0, 10, 17, 19⟩] (hT.trans rfl) (fun z hz => nomatch hz) (by decide) (by decide) (hw _ bw382) (castXX (hw _ bw391)) hce hcv hcl ?_
  refine lv_astore (lv' := [(4, .ref q9), (0, .ref (a 0)), (1, .int p0), (2, .int p1), (3, .ref o)]) hx hb dL_field_13 hl (Nat.le_of_ble_eq_true rfl) rfl (fun ls hl => ?_)
  refine lv_iconst (v := (1 : Int32)) hx hb dL_field_15 qi_1 ?_
  exact we_h hx hb hr hk (P_old hP ho) hD hS1 (Nat.le_of_ble_eq_true rfl) (Nat.le_of_ble_eq_true rfl) dL_field_16

set_option maxRecDepth 100000 in
set_option maxHeartbeats 4000000 in
theorem hA_field (l : Launch) (hl9 : l.stackTraces = false) (G : GT) (a : Nat → Nat) (o : Nat) (n : Int64) (sv : Value) (S : SX) (p0 : Int32) (p1 : Int32) (h0 : vp_in p0 6) (hbad : ¬ ((¬ p1 < (0 : Int32) ∧ p1 ≤ (27 : Int32)))) : HE l G yL_field cL_field 5 [(0, 10, 13, 25), (0, 10, 17, 19)] 10 1 6 [.ref (a 0), .int p0, .int p1, .ref o] (wH G a o n sv S) (wH G a o n sv S) (2 : Int32) := by
  refine HE.ofW (own := RL) rfl pnN_RL (Nat.le_of_ble_eq_true rfl) ?_
  intro p e s m below meth c A C hr hk hT hN hE hP hD hA hAB hS ls hl
  have hx := C.1
  have hb := C.2.1
  have hown := C.2.2.2.1
  have hw := C.2.2.2.2
  have hl : lv_has ls 5 [(0, .ref (a 0)), (1, .int p0), (2, .int p1), (3, .ref o)] := hl
  have hPX : va_P (gD G) vwCl (wX G a S) s.heap := P_tail hP
  refine lv_aload_n hx hb dL_field_0 rfl (lv_at hl 3 rfl) ?_
  refine lv_aload_n hx hb dL_field_1 rfl (lv_at hl 0 rfl) ?_
  refine lv_iload_n hx hb dL_field_2 rfl (lv_at hl 1 rfl) ?_
  refine lv_iload_n hx hb dL_field_3 rfl (lv_at hl 2 rfl) ?_
  refine thV (as := [.int p0, .int p1]) (rest := [.ref o]) (cl := RX0) C (tA_X0_field l hl9 G a p0 p1 h0 hbad) F_X0_field rfl bw1084 bw1085 bw1086 hE hS hA (rv2 hE.K hPX (q0 := 0) rfl) hl.1 dL_field_4 ⟨Nat.le_of_ble_eq_true rfl, Nat.le_of_ble_eq_true rfl⟩ rfl (Nat.le_of_ble_eq_true rfl) ⟨Nat.le_of_ble_eq_true rfl, Nat.le_of_ble_eq_true rfl⟩ (fun q9 ce H1 locs1 hz ho hS1 hce hcv hcl => ?_)
  refine vx_catch hown [⟨0, 10, 13, 25⟩] ⟨0, 10, 17, 19⟩ [] (hT.trans rfl) (fun z hz => by cases List.mem_singleton.mp hz; exact Or.inr ⟨by decide, eI, hw _ bw382, hN.1⟩) (by decide) (by decide) (hw _ bw303) (castXX (hw _ bw312)) hce hcv hcl ?_
  refine lv_astore (lv' := [(4, .ref q9), (0, .ref (a 0)), (1, .int p0), (2, .int p1), (3, .ref o)]) hx hb dL_field_17 hl (Nat.le_of_ble_eq_true rfl) rfl (fun ls hl => ?_)
  refine lv_iconst (v := (2 : Int32)) hx hb dL_field_19 qi_2 ?_
  exact we_h hx hb hr hk (P_old hP ho) hD hS1 (Nat.le_of_ble_eq_true rfl) (Nat.le_of_ble_eq_true rfl) dL_field_20

set_option maxRecDepth 100000 in
set_option maxHeartbeats 4000000 in
theorem hI_isSameAs (l : Launch) (hl9 : l.stackTraces = false) (G : GT) (a : Nat → Nat) (o : Nat) (n : Int64) (sv : Value) (S : SX) (p0 : Int32) (p1 : Int32) (hbad : ¬ (vp_in p0 6)) : HE l G yL_isSameAs cL_isSameAs 5 [(0, 18, 21, 25), (0, 18, 25, 19)] 10 1 6 [.ref (a 0), .int p0, .int p1, .ref o] (wH G a o n sv S) (wH G a o n sv S) (1 : Int32) := by
  refine HE.ofW (own := RL) rfl pnN_RL (Nat.le_of_ble_eq_true rfl) ?_
  intro p e s m below meth c A C hr hk hT hN hE hP hD hA hAB hS ls hl
  have hx := C.1
  have hb := C.2.1
  have hown := C.2.2.2.1
  have hw := C.2.2.2.2
  have hl : lv_has ls 5 [(0, .ref (a 0)), (1, .int p0), (2, .int p1), (3, .ref o)] := hl
  have hPX : va_P (gD G) vwCl (wX G a S) s.heap := P_tail hP
  refine lv_aload_n hx hb dL_isSameAs_0 rfl (lv_at hl 3 rfl) ?_
  refine lv_aload_n hx hb dL_isSameAs_1 rfl (lv_at hl 0 rfl) ?_
  refine lv_iload_n hx hb dL_isSameAs_2 rfl (lv_at hl 1 rfl) ?_
  refine lv_iload_n hx hb dL_isSameAs_3 rfl (lv_at hl 2 rfl) ?_
  refine thV (as := [.int p0, .int p1]) (rest := [.ref o]) (cl := RX0) C (tI_X0_isSameAs l hl9 G a p0 p1 hbad) F_X0_isSameAs rfl bw1114 bw1115 bw1116 hE hS hA (rv2 hE.K hPX (q0 := 0) rfl) hl.1 dL_isSameAs_4 ⟨Nat.le_of_ble_eq_true rfl, Nat.le_of_ble_eq_true rfl⟩ rfl (Nat.le_of_ble_eq_true rfl) ⟨Nat.le_of_ble_eq_true rfl, Nat.le_of_ble_eq_true rfl⟩ (fun q9 ce H1 locs1 hz ho hS1 hce hcv hcl => ?_)
  refine vx_catch hown [] ⟨0, 18, 21, 25⟩ [⟨0, 18, 25, 19⟩] (hT.trans rfl) (fun z hz => nomatch hz) (by decide) (by decide) (hw _ bw382) (castXX (hw _ bw391)) hce hcv hcl ?_
  refine lv_astore (lv' := [(4, .ref q9), (0, .ref (a 0)), (1, .int p0), (2, .int p1), (3, .ref o)]) hx hb dL_isSameAs_21 hl (Nat.le_of_ble_eq_true rfl) rfl (fun ls hl => ?_)
  refine lv_iconst (v := (1 : Int32)) hx hb dL_isSameAs_23 qi_1 ?_
  exact we_h hx hb hr hk (P_old hP ho) hD hS1 (Nat.le_of_ble_eq_true rfl) (Nat.le_of_ble_eq_true rfl) dL_isSameAs_24

set_option maxRecDepth 100000 in
set_option maxHeartbeats 4000000 in
theorem hA_isSameAs (l : Launch) (hl9 : l.stackTraces = false) (G : GT) (a : Nat → Nat) (o : Nat) (n : Int64) (sv : Value) (S : SX) (p0 : Int32) (p1 : Int32) (h0 : vp_in p0 6) (hbad : ¬ ((¬ p1 < (0 : Int32) ∧ p1 ≤ (4 : Int32)))) : HE l G yL_isSameAs cL_isSameAs 5 [(0, 18, 21, 25), (0, 18, 25, 19)] 10 1 6 [.ref (a 0), .int p0, .int p1, .ref o] (wH G a o n sv S) (wH G a o n sv S) (2 : Int32) := by
  refine HE.ofW (own := RL) rfl pnN_RL (Nat.le_of_ble_eq_true rfl) ?_
  intro p e s m below meth c A C hr hk hT hN hE hP hD hA hAB hS ls hl
  have hx := C.1
  have hb := C.2.1
  have hown := C.2.2.2.1
  have hw := C.2.2.2.2
  have hl : lv_has ls 5 [(0, .ref (a 0)), (1, .int p0), (2, .int p1), (3, .ref o)] := hl
  have hPX : va_P (gD G) vwCl (wX G a S) s.heap := P_tail hP
  refine lv_aload_n hx hb dL_isSameAs_0 rfl (lv_at hl 3 rfl) ?_
  refine lv_aload_n hx hb dL_isSameAs_1 rfl (lv_at hl 0 rfl) ?_
  refine lv_iload_n hx hb dL_isSameAs_2 rfl (lv_at hl 1 rfl) ?_
  refine lv_iload_n hx hb dL_isSameAs_3 rfl (lv_at hl 2 rfl) ?_
  refine thV (as := [.int p0, .int p1]) (rest := [.ref o]) (cl := RX0) C (tA_X0_isSameAs l hl9 G a p0 p1 h0 hbad) F_X0_isSameAs rfl bw1114 bw1115 bw1116 hE hS hA (rv2 hE.K hPX (q0 := 0) rfl) hl.1 dL_isSameAs_4 ⟨Nat.le_of_ble_eq_true rfl, Nat.le_of_ble_eq_true rfl⟩ rfl (Nat.le_of_ble_eq_true rfl) ⟨Nat.le_of_ble_eq_true rfl, Nat.le_of_ble_eq_true rfl⟩ (fun q9 ce H1 locs1 hz ho hS1 hce hcv hcl => ?_)
  refine vx_catch hown [⟨0, 18, 21, 25⟩] ⟨0, 18, 25, 19⟩ [] (hT.trans rfl) (fun z hz => by cases List.mem_singleton.mp hz; exact Or.inr ⟨by decide, eI, hw _ bw382, hN.1⟩) (by decide) (by decide) (hw _ bw303) (castXX (hw _ bw312)) hce hcv hcl ?_
  refine lv_astore (lv' := [(4, .ref q9), (0, .ref (a 0)), (1, .int p0), (2, .int p1), (3, .ref o)]) hx hb dL_isSameAs_25 hl (Nat.le_of_ble_eq_true rfl) rfl (fun ls hl => ?_)
  refine lv_iconst (v := (2 : Int32)) hx hb dL_isSameAs_27 qi_2 ?_
  exact we_h hx hb hr hk (P_old hP ho) hD hS1 (Nat.le_of_ble_eq_true rfl) (Nat.le_of_ble_eq_true rfl) dL_isSameAs_28

set_option maxRecDepth 100000 in
set_option maxHeartbeats 4000000 in
theorem hG_isSameAs (l : Launch) (hl9 : l.stackTraces = false) (G : GT) (a : Nat → Nat) (o : Nat) (n : Int64) (sv : Value) (S : SX) (p0 : Int32) (p1 : Int32) (h0 : vp_in p0 6) (r1 : ¬ p1 < (0 : Int32)) (q1 : p1 ≤ (4 : Int32)) : HE l G yL_isSameAs cL_isSameAs 5 [(0, 18, 21, 25), (0, 18, 25, 19)] 10 0 0 [.ref (a 0), .int p0, .int p1, .ref o] (wH G a o n sv S) (wH G a o (fz9 (fX0_isSameAs S p0 p1)) sv S) (0 : Int32) := by
  refine HE.ofW (own := RL) rfl pnN_RL (Nat.le_of_ble_eq_true rfl) ?_
  intro p e s m below meth c A C hr hk hT hN hE hP hD hA hAB hS ls hl
  have hx := C.1
  have hb := C.2.1
  have hown := C.2.2.2.1
  have hw := C.2.2.2.2
  have hl : lv_has ls 5 [(0, .ref (a 0)), (1, .int p0), (2, .int p1), (3, .ref o)] := hl
  have hPX : va_P (gD G) vwCl (wX G a S) s.heap := P_tail hP
  refine lv_aload_n hx hb dL_isSameAs_0 rfl (lv_at hl 3 rfl) ?_
  refine lv_aload_n hx hb dL_isSameAs_1 rfl (lv_at hl 0 rfl) ?_
  refine lv_iload_n hx hb dL_isSameAs_2 rfl (lv_at hl 1 rfl) ?_
  refine lv_iload_n hx hb dL_isSameAs_3 rfl (lv_at hl 2 rfl) ?_
  refine rcVi (as := [.int p0, .int p1]) (rest := [.ref o]) (cl := RX0) C (c_X0_isSameAs l G a S p0 p1 h0 r1 q1) F_X0_isSameAs rfl bw1114 bw1115 bw1116 hE hPX (rv2 hE.K hPX (q0 := 0) rfl) hl.1 dL_isSameAs_4 ⟨Nat.le_of_ble_eq_true rfl, Nat.le_of_ble_eq_true rfl⟩ rfl (Nat.le_of_ble_eq_true rfl) ⟨Nat.le_of_ble_eq_true rfl, Nat.le_of_ble_eq_true rfl⟩ ?_
  refine lv_if_eq (tgt := 14) hx hb dL_isSameAs_7 (by decide) (fun c_1 => ?_) (fun c_1 => ?_)
  · refine lv_lconst (v := (0 : Int64)) hx hb dL_isSameAs_14 ql_0 ?_
    refine va_putN (D := gD G) (cl := vwCl) (tys := gT G) (ci := 3) (v := .long (0 : Int64)) (ty := .long) (C := RX1) (T := TX1) (N := 2) hx hb hw inB_X1 tyX1 tyX1_ok nmX1 hown hE.K hP hD hS 0 rfl rfl 0 (by decide) (va_Nw.use rfl hN.2.1) (fun _ h9 => h9) rfl (by decide +kernel) rfl rfl (Nat.le_of_ble_eq_true rfl) dL_isSameAs_15 (fun H locs hP hD hS => ?_)
    refine lv_goto (tgt := 29) hx hb dL_isSameAs_18 (by decide) ?_
    refine lv_iconst (v := (0 : Int32)) hx hb dL_isSameAs_29 qi_0 ?_
    rw [show fz9 (fX0_isSameAs S p0 p1) = 0 from if_pos c_1]
    exact we_h hx hb hr hk hP hD hS (Nat.le_of_ble_eq_true rfl) (Nat.le_of_ble_eq_true rfl) dL_isSameAs_30
  · refine lv_lconst (v := (1 : Int64)) hx hb dL_isSameAs_10 ql_1 ?_
    refine lv_goto (tgt := 15) hx hb dL_isSameAs_11 (by decide) ?_
    refine va_putN (D := gD G) (cl := vwCl) (tys := gT G) (ci := 3) (v := .long (1 : Int64)) (ty := .long) (C := RX1) (T := TX1) (N := 2) hx hb hw inB_X1 tyX1 tyX1_ok nmX1 hown hE.K hP hD hS 0 rfl rfl 0 (by decide) (va_Nw.use rfl hN.2.1) (fun _ h9 => h9) rfl (by decide +kernel) rfl rfl (Nat.le_of_ble_eq_true rfl) dL_isSameAs_15 (fun H locs hP hD hS => ?_)
    refine lv_goto (tgt := 29) hx hb dL_isSameAs_18 (by decide) ?_
    refine lv_iconst (v := (0 : Int32)) hx hb dL_isSameAs_29 qi_0 ?_
    rw [show fz9 (fX0_isSameAs S p0 p1) = 1 from if_neg c_1]
    exact we_h hx hb hr hk hP hD hS (Nat.le_of_ble_eq_true rfl) (Nat.le_of_ble_eq_true rfl) dL_isSameAs_30

set_option maxRecDepth 100000 in
set_option maxHeartbeats 4000000 in
theorem hI_between (l : Launch) (hl9 : l.stackTraces = false) (G : GT) (a : Nat → Nat) (o : Nat) (n : Int64) (sv : Value) (S : SX) (p0 : Int32) (p1 : Int32) (p2 : Int32) (hbad : ¬ (vp_in p0 6 ∧ vp_in p1 6)) : HE l G yL_between cL_between 6 [(0, 12, 15, 25), (0, 12, 19, 19)] 10 1 6 [.ref (a 0), .int p0, .int p1, .int p2, .ref o] (wH G a o n sv S) (wH G a o n sv S) (1 : Int32) := by
  refine HE.ofW (own := RL) rfl pnN_RL (Nat.le_of_ble_eq_true rfl) ?_
  intro p e s m below meth c A C hr hk hT hN hE hP hD hA hAB hS ls hl
  have hx := C.1
  have hb := C.2.1
  have hown := C.2.2.2.1
  have hw := C.2.2.2.2
  have hl : lv_has ls 6 [(0, .ref (a 0)), (1, .int p0), (2, .int p1), (3, .int p2), (4, .ref o)] := hl
  have hPX : va_P (gD G) vwCl (wX G a S) s.heap := P_tail hP
  refine lv_aload hx hb dL_between_0 (lv_at hl 4 rfl) ?_
  refine lv_aload_n hx hb dL_between_2 rfl (lv_at hl 0 rfl) ?_
  refine lv_iload_n hx hb dL_between_3 rfl (lv_at hl 1 rfl) ?_
  refine lv_iload_n hx hb dL_between_4 rfl (lv_at hl 2 rfl) ?_
  refine lv_iload_n hx hb dL_between_5 rfl (lv_at hl 3 rfl) ?_
  refine thV (as := [.int p0, .int p1, .int p2]) (rest := [.ref o]) (cl := RX0) C (tI_X0_between l hl9 G a p0 p1 p2 hbad) F_X0_between rfl bw1121 bw1122 bw1123 hE hS hA (rv2 hE.K hPX (q0 := 0) rfl) hl.1 dL_between_6 ⟨Nat.le_of_ble_eq_true rfl, Nat.le_of_ble_eq_true rfl⟩ rfl (Nat.le_of_ble_eq_true rfl) ⟨Nat.le_of_ble_eq_true rfl, Nat.le_of_ble_eq_true rfl⟩ (fun q9 ce H1 locs1 hz ho hS1 hce hcv hcl => ?_)
  refine vx_catch hown [] ⟨0, 12, 15, 25⟩ [⟨0, 12, 19, 19⟩] (hT.trans rfl) (fun z hz => nomatch hz) (by decide) (by decide) (hw _ bw382) (castXX (hw _ bw391)) hce hcv hcl ?_
  refine lv_astore (lv' := [(5, .ref q9), (0, .ref (a 0)), (1, .int p0), (2, .int p1), (3, .int p2), (4, .ref o)]) hx hb dL_between_15 hl (Nat.le_of_ble_eq_true rfl) rfl (fun ls hl => ?_)
  refine lv_iconst (v := (1 : Int32)) hx hb dL_between_17 qi_1 ?_
  exact we_h hx hb hr hk (P_old hP ho) hD hS1 (Nat.le_of_ble_eq_true rfl) (Nat.le_of_ble_eq_true rfl) dL_between_18

set_option maxRecDepth 100000 in
set_option maxHeartbeats 4000000 in
theorem hA_between (l : Launch) (hl9 : l.stackTraces = false) (G : GT) (a : Nat → Nat) (o : Nat) (n : Int64) (sv : Value) (S : SX) (p0 : Int32) (p1 : Int32) (p2 : Int32) (h0 : vp_in p0 6) (h1 : vp_in p1 6) (hbad : ¬ ((¬ p2 < (0 : Int32) ∧ p2 ≤ (13 : Int32)))) : HE l G yL_between cL_between 6 [(0, 12, 15, 25), (0, 12, 19, 19)] 10 1 6 [.ref (a 0), .int p0, .int p1, .int p2, .ref o] (wH G a o n sv S) (wH G a o n sv S) (2 : Int32) := by
  refine HE.ofW (own := RL) rfl pnN_RL (Nat.le_of_ble_eq_true rfl) ?_
  intro p e s m below meth c A C hr hk hT hN hE hP hD hA hAB hS ls hl
  have hx := C.1
  have hb := C.2.1
  have hown := C.2.2.2.1
  have hw := C.2.2.2.2
  have hl : lv_has ls 6 [(0, .ref (a 0)), (1, .int p0), (2, .int p1), (3, .int p2), (4, .ref o)] := hl
  have hPX : va_P (gD G) vwCl (wX G a S) s.heap := P_tail hP
  refine lv_aload hx hb dL_between_0 (lv_at hl 4 rfl) ?_
  refine lv_aload_n hx hb dL_between_2 rfl (lv_at hl 0 rfl) ?_
  refine lv_iload_n hx hb dL_between_3 rfl (lv_at hl 1 rfl) ?_
  refine lv_iload_n hx hb dL_between_4 rfl (lv_at hl 2 rfl) ?_
  refine lv_iload_n hx hb dL_between_5 rfl (lv_at hl 3 rfl) ?_
  refine thV (as := [.int p0, .int p1, .int p2]) (rest := [.ref o]) (cl := RX0) C (tA_X0_between l hl9 G a p0 p1 p2 h0 h1 hbad) F_X0_between rfl bw1121 bw1122 bw1123 hE hS hA (rv2 hE.K hPX (q0 := 0) rfl) hl.1 dL_between_6 ⟨Nat.le_of_ble_eq_true rfl, Nat.le_of_ble_eq_true rfl⟩ rfl (Nat.le_of_ble_eq_true rfl) ⟨Nat.le_of_ble_eq_true rfl, Nat.le_of_ble_eq_true rfl⟩ (fun q9 ce H1 locs1 hz ho hS1 hce hcv hcl => ?_)
  refine vx_catch hown [⟨0, 12, 15, 25⟩] ⟨0, 12, 19, 19⟩ [] (hT.trans rfl) (fun z hz => by cases List.mem_singleton.mp hz; exact Or.inr ⟨by decide, eI, hw _ bw382, hN.1⟩) (by decide) (by decide) (hw _ bw303) (castXX (hw _ bw312)) hce hcv hcl ?_
  refine lv_astore (lv' := [(5, .ref q9), (0, .ref (a 0)), (1, .int p0), (2, .int p1), (3, .int p2), (4, .ref o)]) hx hb dL_between_19 hl (Nat.le_of_ble_eq_true rfl) rfl (fun ls hl => ?_)
  refine lv_iconst (v := (2 : Int32)) hx hb dL_between_21 qi_2 ?_
  exact we_h hx hb hr hk (P_old hP ho) hD hS1 (Nat.le_of_ble_eq_true rfl) (Nat.le_of_ble_eq_true rfl) dL_between_22

set_option maxRecDepth 100000 in
set_option maxHeartbeats 4000000 in
theorem hI_until (l : Launch) (hl9 : l.stackTraces = false) (G : GT) (a : Nat → Nat) (o : Nat) (n : Int64) (sv : Value) (S : SX) (p0 : Int32) (p1 : Int32) (p2 : Int32) (hbad : ¬ (vp_in p0 6 ∧ vp_in p1 6)) : HE l G yL_until cL_until 6 [(0, 12, 15, 25), (0, 12, 19, 19)] 10 1 6 [.ref (a 0), .int p0, .int p1, .int p2, .ref o] (wH G a o n sv S) (wH G a o n sv S) (1 : Int32) := by
  refine HE.ofW (own := RL) rfl pnN_RL (Nat.le_of_ble_eq_true rfl) ?_
  intro p e s m below meth c A C hr hk hT hN hE hP hD hA hAB hS ls hl
  have hx := C.1
  have hb := C.2.1
  have hown := C.2.2.2.1
  have hw := C.2.2.2.2
  have hl : lv_has ls 6 [(0, .ref (a 0)), (1, .int p0), (2, .int p1), (3, .int p2), (4, .ref o)] := hl
  have hPX : va_P (gD G) vwCl (wX G a S) s.heap := P_tail hP
  refine lv_aload hx hb dL_until_0 (lv_at hl 4 rfl) ?_
  refine lv_aload_n hx hb dL_until_2 rfl (lv_at hl 0 rfl) ?_
  refine lv_iload_n hx hb dL_until_3 rfl (lv_at hl 1 rfl) ?_
  refine lv_iload_n hx hb dL_until_4 rfl (lv_at hl 2 rfl) ?_
  refine lv_iload_n hx hb dL_until_5 rfl (lv_at hl 3 rfl) ?_
  refine thV (as := [.int p0, .int p1, .int p2]) (rest := [.ref o]) (cl := RX0) C (tI_X0_until l hl9 G a p0 p1 p2 hbad) F_X0_until rfl bw1146 bw1147 bw1148 hE hS hA (rv2 hE.K hPX (q0 := 0) rfl) hl.1 dL_until_6 ⟨Nat.le_of_ble_eq_true rfl, Nat.le_of_ble_eq_true rfl⟩ rfl (Nat.le_of_ble_eq_true rfl) ⟨Nat.le_of_ble_eq_true rfl, Nat.le_of_ble_eq_true rfl⟩ (fun q9 ce H1 locs1 hz ho hS1 hce hcv hcl => ?_)
  refine vx_catch hown [] ⟨0, 12, 15, 25⟩ [⟨0, 12, 19, 19⟩] (hT.trans rfl) (fun z hz => nomatch hz) (by decide) (by decide) (hw _ bw382) (castXX (hw _ bw391)) hce hcv hcl ?_
  refine lv_astore (lv' := [(5, .ref q9), (0, .ref (a 0)), (1, .int p0), (2, .int p1), (3, .int p2), (4, .ref o)]) hx hb dL_until_15 hl (Nat.le_of_ble_eq_true rfl) rfl (fun ls hl => ?_)
  refine lv_iconst (v := (1 : Int32)) hx hb dL_until_17 qi_1 ?_
  exact we_h hx hb hr hk (P_old hP ho) hD hS1 (Nat.le_of_ble_eq_true rfl) (Nat.le_of_ble_eq_true rfl) dL_until_18

set_option maxRecDepth 100000 in
set_option maxHeartbeats 4000000 in
theorem hA_until (l : Launch) (hl9 : l.stackTraces = false) (G : GT) (a : Nat → Nat) (o : Nat) (n : Int64) (sv : Value) (S : SX) (p0 : Int32) (p1 : Int32) (p2 : Int32) (h0 : vp_in p0 6) (h1 : vp_in p1 6) (hbad : ¬ ((¬ p2 < (0 : Int32) ∧ p2 ≤ (13 : Int32)))) : HE l G yL_until cL_until 6 [(0, 12, 15, 25), (0, 12, 19, 19)] 10 1 6 [.ref (a 0), .int p0, .int p1, .int p2, .ref o] (wH G a o n sv S) (wH G a o n sv S) (2 : Int32) := by
  refine HE.ofW (own := RL) rfl pnN_RL (Nat.le_of_ble_eq_true rfl) ?_
  intro p e s m below meth c A C hr hk hT hN hE hP hD hA hAB hS ls hl
  have hx := C.1
  have hb := C.2.1
  have hown := C.2.2.2.1
  have hw := C.2.2.2.2
  have hl : lv_has ls 6 [(0, .ref (a 0)), (1, .int p0), (2, .int p1), (3, .int p2), (4, .ref o)] := hl
  have hPX : va_P (gD G) vwCl (wX G a S) s.heap := P_tail hP
  refine lv_aload hx hb dL_until_0 (lv_at hl 4 rfl) ?_
  refine lv_aload_n hx hb dL_until_2 rfl (lv_at hl 0 rfl) ?_
  refine lv_iload_n hx hb dL_until_3 rfl (lv_at hl 1 rfl) ?_
  refine lv_iload_n hx hb dL_until_4 rfl (lv_at hl 2 rfl) ?_
  refine lv_iload_n hx hb dL_until_5 rfl (lv_at hl 3 rfl) ?_
  refine thV (as := [.int p0, .int p1, .int p2]) (rest := [.ref o]) (cl := RX0) C (tA_X0_until l hl9 G a p0 p1 p2 h0 h1 hbad) F_X0_until rfl bw1146 bw1147 bw1148 hE hS hA (rv2 hE.K hPX (q0 := 0) rfl) hl.1 dL_until_6 ⟨Nat.le_of_ble_eq_true rfl, Nat.le_of_ble_eq_true rfl⟩ rfl (Nat.le_of_ble_eq_true rfl) ⟨Nat.le_of_ble_eq_true rfl, Nat.le_of_ble_eq_true rfl⟩ (fun q9 ce H1 locs1 hz ho hS1 hce hcv hcl => ?_)
  refine vx_catch hown [⟨0, 12, 15, 25⟩] ⟨0, 12, 19, 19⟩ [] (hT.trans rfl) (fun z hz => by cases List.mem_singleton.mp hz; exact Or.inr ⟨by decide, eI, hw _ bw382, hN.1⟩) (by decide) (by decide) (hw _ bw303) (castXX (hw _ bw312)) hce hcv hcl ?_
  refine lv_astore (lv' := [(5, .ref q9), (0, .ref (a 0)), (1, .int p0), (2, .int p1), (3, .int p2), (4, .ref o)]) hx hb dL_until_19 hl (Nat.le_of_ble_eq_true rfl) rfl (fun ls hl => ?_)
  refine lv_iconst (v := (2 : Int32)) hx hb dL_until_21 qi_2 ?_
  exact we_h hx hb hr hk (P_old hP ho) hD hS1 (Nat.le_of_ble_eq_true rfl) (Nat.le_of_ble_eq_true rfl) dL_until_22

set_option maxRecDepth 100000 in
set_option maxHeartbeats 4000000 in
theorem hA_house (l : Launch) (hl9 : l.stackTraces = false) (G : GT) (a : Nat → Nat) (o : Nat) (n : Int64) (sv : Value) (S : SX) (p0 : Int32) (hbad : ¬ ((¬ p0 < (0 : Int32) ∧ p0 ≤ (5 : Int32)))) : HE l G yL_house cL_house 4 [(0, 10, 13, 19)] 10 1 6 [.ref (a 0), .int p0, .ref o] (wH G a o n sv S) (wH G a o n sv S) (1 : Int32) := by
  refine HE.ofW (own := RL) rfl pnN_RL (Nat.le_of_ble_eq_true rfl) ?_
  intro p e s m below meth c A C hr hk hT hN hE hP hD hA hAB hS ls hl
  have hx := C.1
  have hb := C.2.1
  have hown := C.2.2.2.1
  have hw := C.2.2.2.2
  have hl : lv_has ls 4 [(0, .ref (a 0)), (1, .int p0), (2, .ref o)] := hl
  have hPX : va_P (gD G) vwCl (wX G a S) s.heap := P_tail hP
  refine lv_aload_n hx hb dL_house_0 rfl (lv_at hl 2 rfl) ?_
  refine lv_aload_n hx hb dL_house_1 rfl (lv_at hl 0 rfl) ?_
  refine lv_iload_n hx hb dL_house_2 rfl (lv_at hl 1 rfl) ?_
  refine thV (as := [.int p0]) (rest := [.ref o]) (cl := RX0) C (tA_X0_house l hl9 G a p0 hbad) F_X0_house rfl bw1153 bw1154 bw1155 hE hS hA (rv2 hE.K hPX (q0 := 0) rfl) hl.1 dL_house_3 ⟨Nat.le_of_ble_eq_true rfl, Nat.le_of_ble_eq_true rfl⟩ rfl (Nat.le_of_ble_eq_true rfl) ⟨Nat.le_of_ble_eq_true rfl, Nat.le_of_ble_eq_true rfl⟩ (fun q9 ce H1 locs1 hz ho hS1 hce hcv hcl => ?_)
  refine vx_catch hown [] ⟨0, 10, 13, 19⟩ [] (hT.trans rfl) (fun z hz => nomatch hz) (by decide) (by decide) (hw _ bw303) (castXX (hw _ bw312)) hce hcv hcl ?_
  refine lv_astore_n (lv' := [(3, .ref q9), (0, .ref (a 0)), (1, .int p0), (2, .ref o)]) hx hb dL_house_13 rfl hl (Nat.le_of_ble_eq_true rfl) rfl (fun ls hl => ?_)
  refine lv_iconst (v := (1 : Int32)) hx hb dL_house_14 qi_1 ?_
  exact we_h hx hb hr hk (P_old hP ho) hD hS1 (Nat.le_of_ble_eq_true rfl) (Nat.le_of_ble_eq_true rfl) dL_house_15

set_option maxRecDepth 100000 in
set_option maxHeartbeats 4000000 in
theorem hG_house (l : Launch) (hl9 : l.stackTraces = false) (G : GT) (a : Nat → Nat) (o : Nat) (n : Int64) (sv : Value) (S : SX) (p0 : Int32) (r0 : ¬ p0 < (0 : Int32)) (q0 : p0 ≤ (5 : Int32)) : HE l G yL_house cL_house 4 [(0, 10, 13, 19)] 10 0 0 [.ref (a 0), .int p0, .ref o] (wH G a o n sv S) (wH G a o ((fX0_house S p0).toInt64) sv S) (0 : Int32) := by
  refine HE.ofW (own := RL) rfl pnN_RL (Nat.le_of_ble_eq_true rfl) ?_
  intro p e s m below meth c A C hr hk hT hN hE hP hD hA hAB hS ls hl
  have hx := C.1
  have hb := C.2.1
  have hown := C.2.2.2.1
  have hw := C.2.2.2.2
  have hl : lv_has ls 4 [(0, .ref (a 0)), (1, .int p0), (2, .ref o)] := hl
  have hPX : va_P (gD G) vwCl (wX G a S) s.heap := P_tail hP
  refine lv_aload_n hx hb dL_house_0 rfl (lv_at hl 2 rfl) ?_
  refine lv_aload_n hx hb dL_house_1 rfl (lv_at hl 0 rfl) ?_
  refine lv_iload_n hx hb dL_house_2 rfl (lv_at hl 1 rfl) ?_
  refine rcVi (as := [.int p0]) (rest := [.ref o]) (cl := RX0) C (c_X0_house l G a S p0 r0 q0) F_X0_house rfl bw1153 bw1154 bw1155 hE hPX (rv2 hE.K hPX (q0 := 0) rfl) hl.1 dL_house_3 ⟨Nat.le_of_ble_eq_true rfl, Nat.le_of_ble_eq_true rfl⟩ rfl (Nat.le_of_ble_eq_true rfl) ⟨Nat.le_of_ble_eq_true rfl, Nat.le_of_ble_eq_true rfl⟩ ?_
  refine lv_i2l (v := ((fX0_house S p0).toInt64)) hx hb dL_house_6 (by first | rfl | decide) ?_
  refine va_putN (D := gD G) (cl := vwCl) (tys := gT G) (ci := 3) (v := .long ((fX0_house S p0).toInt64)) (ty := .long) (C := RX1) (T := TX1) (N := 2) hx hb hw inB_X1 tyX1 tyX1_ok nmX1 hown hE.K hP hD hS 0 rfl rfl 0 (by decide) (va_Nw.use rfl hN.2.1) (fun _ h9 => h9) rfl (by decide +kernel) rfl rfl (Nat.le_of_ble_eq_true rfl) dL_house_7 (fun H locs hP hD hS => ?_)
  refine lv_goto (tgt := 16) hx hb dL_house_10 (by decide) ?_
  refine lv_iconst (v := (0 : Int32)) hx hb dL_house_16 qi_0 ?_
  exact we_h hx hb hr hk hP hD hS (Nat.le_of_ble_eq_true rfl) (Nat.le_of_ble_eq_true rfl) dL_house_17
