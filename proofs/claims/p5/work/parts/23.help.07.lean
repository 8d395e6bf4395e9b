set_option maxRecDepth 100000 in
set_option maxHeartbeats 4000000 in
theorem hI_minusNanos (l : Launch) (hl9 : l.stackTraces = false) (G : GT) (a : Nat → Nat) (o : Nat) (n : Int64) (sv : Value) (S : SX) (p0 : Int32) (p1 : Int32) (p2 : Int32) (hbad : ¬ (vp_in p0 6)) : HE l G yL_minusNanos cL_minusNanos 6 [(0, 13, 16, 25)] 10 1 6 [.ref (a 0), .int p0, .int p1, .int p2, .ref o] (wH G a o n sv S) (wH G a o n sv S) (1 : Int32) := by
  refine HE.ofW (own := RL) rfl (by decide +kernel) (Nat.le_of_ble_eq_true rfl) ?_
  intro p e s m below meth c A C hr hk hT hN hE hP hD hA hAB hS ls hl
  have hx := C.1
  have hb := C.2.1
  have hown := C.2.2.2.1
  have hw := C.2.2.2.2
  have hl : lv_has ls 6 [(0, .ref (a 0)), (1, .int p0), (2, .int p1), (3, .int p2), (4, .ref o)] := hl
  have hPX : va_P (gD G) vwCl (wX G a S) s.heap := P_tail hP
  refine lv_aload hx hb dL_minusNanos_0 (lv_at hl 4 rfl) ?_
  refine lv_aload_n hx hb dL_minusNanos_2 rfl (lv_at hl 0 rfl) ?_
  refine lv_iload_n hx hb dL_minusNanos_3 rfl (lv_at hl 1 rfl) ?_
  refine lv_iload_n hx hb dL_minusNanos_4 rfl (lv_at hl 2 rfl) ?_
  refine lv_iload_n hx hb dL_minusNanos_5 rfl (lv_at hl 3 rfl) ?_
  refine thV (as := [.int p0, .int p1, .int p2]) (rest := [.ref o]) (cl := RX0) C (tI_X0_minusNanos l hl9 G a p0 p1 p2 hbad) F_X0_minusNanos rfl bw664 bw665 bw666 hE hS hA (va_recv hE.K hPX (ci := 2) (q0 := 0) rfl rfl) hl.1 dL_minusNanos_6 ⟨Nat.le_of_ble_eq_true rfl, Nat.le_of_ble_eq_true rfl⟩ rfl (Nat.le_of_ble_eq_true rfl) ⟨Nat.le_of_ble_eq_true rfl, Nat.le_of_ble_eq_true rfl⟩ (fun q9 ce H1 locs1 hz ho hS1 hce hcv hcl => ?_)
  refine vx_catch hown [] ⟨0, 13, 16, 25⟩ [] (hT.trans rfl) (fun z hz => nomatch hz) (by decide) (by decide) (hw _ bw382) (castXX (hw _ bw391)) hce hcv hcl ?_
  refine lv_astore (lv' := [(5, .ref q9), (0, .ref (a 0)), (1, .int p0), (2, .int p1), (3, .int p2), (4, .ref o)]) hx hb dL_minusNanos_16 hl (Nat.le_of_ble_eq_true rfl) rfl (fun ls hl => ?_)
  refine lv_iconst (v := (1 : Int32)) hx hb dL_minusNanos_18 (by decide) ?_
  exact we_h hx hb hr hk (P_old hP ho) hD hS1 (Nat.le_of_ble_eq_true rfl) (Nat.le_of_ble_eq_true rfl) dL_minusNanos_19

set_option maxRecDepth 100000 in
set_option maxHeartbeats 4000000 in
theorem hG_minusNanos (l : Launch) (hl9 : l.stackTraces = false) (G : GT) (a : Nat → Nat) (o : Nat) (n : Int64) (sv : Value) (S : SX) (p0 : Int32) (p1 : Int32) (p2 : Int32) (h0 : vp_in p0 6) : HE l G yL_minusNanos cL_minusNanos 6 [(0, 13, 16, 25)] 10 0 0 [.ref (a 0), .int p0, .int p1, .int p2, .ref o] (wH G a o n sv S) (wH G a o ((gX0_minusNanos S p0 p1 p2).1.toInt64) sv ((gX0_minusNanos S p0 p1 p2).2)) (0 : Int32) := by
  refine HE.ofW (own := RL) rfl (by decide +kernel) (Nat.le_of_ble_eq_true rfl) ?_
  intro p e s m below meth c A C hr hk hT hN hE hP hD hA hAB hS ls hl
  have hx := C.1
  have hb := C.2.1
  have hown := C.2.2.2.1
  have hw := C.2.2.2.2
  have hl : lv_has ls 6 [(0, .ref (a 0)), (1, .int p0), (2, .int p1), (3, .int p2), (4, .ref o)] := hl
  have hPX : va_P (gD G) vwCl (wX G a S) s.heap := P_tail hP
  refine lv_aload hx hb dL_minusNanos_0 (lv_at hl 4 rfl) ?_
  refine lv_aload_n hx hb dL_minusNanos_2 rfl (lv_at hl 0 rfl) ?_
  refine lv_iload_n hx hb dL_minusNanos_3 rfl (lv_at hl 1 rfl) ?_
  refine lv_iload_n hx hb dL_minusNanos_4 rfl (lv_at hl 2 rfl) ?_
  refine lv_iload_n hx hb dL_minusNanos_5 rfl (lv_at hl 3 rfl) ?_
  refine wcV1 (as := [.int p0, .int p1, .int p2]) (rest := [.ref o]) (cl := RX0) C (c_X0_minusNanos l G a S p0 p1 p2 h0) F_X0_minusNanos rfl bw664 bw665 bw666 hE hP hD hS hA hAB (va_recv hE.K hPX (ci := 2) (q0 := 0) rfl rfl) hl.1 dL_minusNanos_6 ⟨Nat.le_of_ble_eq_true rfl, Nat.le_of_ble_eq_true rfl⟩ rfl (Nat.le_of_ble_eq_true rfl) ⟨Nat.le_of_ble_eq_true rfl, Nat.le_of_ble_eq_true rfl⟩ (fun H locs hP hD hS => ?_)
  refine lv_i2l (v := (((gX0_minusNanos S p0 p1 p2).1).toInt64)) hx hb dL_minusNanos_9 (by first | rfl | decide) ?_
  refine va_putN (D := gD G) (cl := vwCl) (tys := gT G) (ci := 3) (v := .long (((gX0_minusNanos S p0 p1 p2).1).toInt64)) (ty := .long) (C := RX1) (T := TX1) (N := 2) hx hb hw inB_X1 tyX1 tyX1_ok nmX1 hown hE.K hP hD hS 0 rfl rfl 0 (by decide) (va_Nw.use rfl hN.2.1) (fun _ h9 => h9) rfl (by decide +kernel) rfl rfl (Nat.le_of_ble_eq_true rfl) dL_minusNanos_10 (fun H locs hP hD hS => ?_)
  refine lv_goto (tgt := 20) hx hb dL_minusNanos_13 (by decide) ?_
  refine lv_iconst (v := (0 : Int32)) hx hb dL_minusNanos_20 (by decide) ?_
  exact we_h hx hb hr hk hP hD hS (Nat.le_of_ble_eq_true rfl) (Nat.le_of_ble_eq_true rfl) dL_minusNanos_21

set_option maxRecDepth 100000 in
set_option maxHeartbeats 4000000 in
theorem hI_plusUnits (l : Launch) (hl9 : l.stackTraces = false) (G : GT) (a : Nat → Nat) (o : Nat) (n : Int64) (sv : Value) (S : SX) (p0 : Int32) (p1 : Int32) (p2 : Int32) (hbad : ¬ (vp_in p0 6)) : HE l G yL_plusUnits cL_plusUnits 6 [(0, 13, 16, 25), (0, 13, 20, 19)] 10 1 6 [.ref (a 0), .int p0, .int p1, .int p2, .ref o] (wH G a o n sv S) (wH G a o n sv S) (1 : Int32) := by
  refine HE.ofW (own := RL) rfl (by decide +kernel) (Nat.le_of_ble_eq_true rfl) ?_
  intro p e s m below meth c A C hr hk hT hN hE hP hD hA hAB hS ls hl
  have hx := C.1
  have hb := C.2.1
  have hown := C.2.2.2.1
  have hw := C.2.2.2.2
  have hl : lv_has ls 6 [(0, .ref (a 0)), (1, .int p0), (2, .int p1), (3, .int p2), (4, .ref o)] := hl
  have hPX : va_P (gD G) vwCl (wX G a S) s.heap := P_tail hP
  refine lv_aload hx hb dL_plusUnits_0 (lv_at hl 4 rfl) ?_
  refine lv_aload_n hx hb dL_plusUnits_2 rfl (lv_at hl 0 rfl) ?_
  refine lv_iload_n hx hb dL_plusUnits_3 rfl (lv_at hl 1 rfl) ?_
  refine lv_iload_n hx hb dL_plusUnits_4 rfl (lv_at hl 2 rfl) ?_
  refine lv_iload_n hx hb dL_plusUnits_5 rfl (lv_at hl 3 rfl) ?_
  refine thV (as := [.int p0, .int p1, .int p2]) (rest := [.ref o]) (cl := RX0) C (tI_X0_plusUnits l hl9 G a p0 p1 p2 hbad) F_X0_plusUnits rfl bw671 bw672 bw673 hE hS hA (va_recv hE.K hPX (ci := 2) (q0 := 0) rfl rfl) hl.1 dL_plusUnits_6 ⟨Nat.le_of_ble_eq_true rfl, Nat.le_of_ble_eq_true rfl⟩ rfl (Nat.le_of_ble_eq_true rfl) ⟨Nat.le_of_ble_eq_true rfl, Nat.le_of_ble_eq_true rfl⟩ (fun q9 ce H1 locs1 hz ho hS1 hce hcv hcl => ?_)
  refine vx_catch hown [] ⟨0, 13, 16, 25⟩ [⟨0, 13, 20, 19⟩] (hT.trans rfl) (fun z hz => nomatch hz) (by decide) (by decide) (hw _ bw382) (castXX (hw _ bw391)) hce hcv hcl ?_
  refine lv_astore (lv' := [(5, .ref q9), (0, .ref (a 0)), (1, .int p0), (2, .int p1), (3, .int p2), (4, .ref o)]) hx hb dL_plusUnits_16 hl (Nat.le_of_ble_eq_true rfl) rfl (fun ls hl => ?_)
  refine lv_iconst (v := (1 : Int32)) hx hb dL_plusUnits_18 (by decide) ?_
  exact we_h hx hb hr hk (P_old hP ho) hD hS1 (Nat.le_of_ble_eq_true rfl) (Nat.le_of_ble_eq_true rfl) dL_plusUnits_19

set_option maxRecDepth 100000 in
set_option maxHeartbeats 4000000 in
theorem hA_plusUnits (l : Launch) (hl9 : l.stackTraces = false) (G : GT) (a : Nat → Nat) (o : Nat) (n : Int64) (sv : Value) (S : SX) (p0 : Int32) (p1 : Int32) (p2 : Int32) (h0 : vp_in p0 6) (hbad : ¬ ((¬ p1 < (-100000 : Int32) ∧ p1 ≤ (100000 : Int32)) ∧ (¬ p2 < (0 : Int32) ∧ p2 ≤ (13 : Int32)))) : HE l G yL_plusUnits cL_plusUnits 6 [(0, 13, 16, 25), (0, 13, 20, 19)] 10 1 6 [.ref (a 0), .int p0, .int p1, .int p2, .ref o] (wH G a o n sv S) (wH G a o n sv S) (2 : Int32) := by
  refine HE.ofW (own := RL) rfl (by decide +kernel) (Nat.le_of_ble_eq_true rfl) ?_
  intro p e s m below meth c A C hr hk hT hN hE hP hD hA hAB hS ls hl
  have hx := C.1
  have hb := C.2.1
  have hown := C.2.2.2.1
  have hw := C.2.2.2.2
  have hl : lv_has ls 6 [(0, .ref (a 0)), (1, .int p0), (2, .int p1), (3, .int p2), (4, .ref o)] := hl
  have hPX : va_P (gD G) vwCl (wX G a S) s.heap := P_tail hP
  refine lv_aload hx hb dL_plusUnits_0 (lv_at hl 4 rfl) ?_
  refine lv_aload_n hx hb dL_plusUnits_2 rfl (lv_at hl 0 rfl) ?_
  refine lv_iload_n hx hb dL_plusUnits_3 rfl (lv_at hl 1 rfl) ?_
  refine lv_iload_n hx hb dL_plusUnits_4 rfl (lv_at hl 2 rfl) ?_
  refine lv_iload_n hx hb dL_plusUnits_5 rfl (lv_at hl 3 rfl) ?_
  refine thV (as := [.int p0, .int p1, .int p2]) (rest := [.ref o]) (cl := RX0) C (tA_X0_plusUnits l hl9 G a p0 p1 p2 h0 hbad) F_X0_plusUnits rfl bw671 bw672 bw673 hE hS hA (va_recv hE.K hPX (ci := 2) (q0 := 0) rfl rfl) hl.1 dL_plusUnits_6 ⟨Nat.le_of_ble_eq_true rfl, Nat.le_of_ble_eq_true rfl⟩ rfl (Nat.le_of_ble_eq_true rfl) ⟨Nat.le_of_ble_eq_true rfl, Nat.le_of_ble_eq_true rfl⟩ (fun q9 ce H1 locs1 hz ho hS1 hce hcv hcl => ?_)
  refine vx_catch hown [⟨0, 13, 16, 25⟩] ⟨0, 13, 20, 19⟩ [] (hT.trans rfl) (fun z hz => by cases List.mem_singleton.mp hz; exact Or.inr ⟨by decide, eI, hw _ bw382, hN.1⟩) (by decide) (by decide) (hw _ bw303) (castXX (hw _ bw312)) hce hcv hcl ?_
  refine lv_astore (lv' := [(5, .ref q9), (0, .ref (a 0)), (1, .int p0), (2, .int p1), (3, .int p2), (4, .ref o)]) hx hb dL_plusUnits_20 hl (Nat.le_of_ble_eq_true rfl) rfl (fun ls hl => ?_)
  refine lv_iconst (v := (2 : Int32)) hx hb dL_plusUnits_22 (by decide) ?_
  exact we_h hx hb hr hk (P_old hP ho) hD hS1 (Nat.le_of_ble_eq_true rfl) (Nat.le_of_ble_eq_true rfl) dL_plusUnits_23

set_option maxRecDepth 100000 in
set_option maxHeartbeats 4000000 in
theorem hG_plusUnits (l : Launch) (hl9 : l.stackTraces = false) (G : GT) (a : Nat → Nat) (o : Nat) (n : Int64) (sv : Value) (S : SX) (p0 : Int32) (p1 : Int32) (p2 : Int32) (h0 : vp_in p0 6) (r1 : ¬ p1 < (-100000 : Int32)) (q1 : p1 ≤ (100000 : Int32)) (r2 : ¬ p2 < (0 : Int32)) (q2 : p2 ≤ (13 : Int32)) : HE l G yL_plusUnits cL_plusUnits 6 [(0, 13, 16, 25), (0, 13, 20, 19)] 10 0 0 [.ref (a 0), .int p0, .int p1, .int p2, .ref o] (wH G a o n sv S) (wH G a o ((gX0_plusUnits S p0 p1 p2).1.toInt64) sv ((gX0_plusUnits S p0 p1 p2).2)) (0 : Int32) := by
  refine HE.ofW (own := RL) rfl (by decide +kernel) (Nat.le_of_ble_eq_true rfl) ?_
  intro p e s m below meth c A C hr hk hT hN hE hP hD hA hAB hS ls hl
  have hx := C.1
  have hb := C.2.1
  have hown := C.2.2.2.1
  have hw := C.2.2.2.2
  have hl : lv_has ls 6 [(0, .ref (a 0)), (1, .int p0), (2, .int p1), (3, .int p2), (4, .ref o)] := hl
  have hPX : va_P (gD G) vwCl (wX G a S) s.heap := P_tail hP
  refine lv_aload hx hb dL_plusUnits_0 (lv_at hl 4 rfl) ?_
  refine lv_aload_n hx hb dL_plusUnits_2 rfl (lv_at hl 0 rfl) ?_
  refine lv_iload_n hx hb dL_plusUnits_3 rfl (lv_at hl 1 rfl) ?_
  refine lv_iload_n hx hb dL_plusUnits_4 rfl (lv_at hl 2 rfl) ?_
  refine lv_iload_n hx hb dL_plusUnits_5 rfl (lv_at hl 3 rfl) ?_
  refine wcV1 (as := [.int p0, .int p1, .int p2]) (rest := [.ref o]) (cl := RX0) C (c_X0_plusUnits l G a S p0 p1 p2 h0 r1 q1 r2 q2) F_X0_plusUnits rfl bw671 bw672 bw673 hE hP hD hS hA hAB (va_recv hE.K hPX (ci := 2) (q0 := 0) rfl rfl) hl.1 dL_plusUnits_6 ⟨Nat.le_of_ble_eq_true rfl, Nat.le_of_ble_eq_true rfl⟩ rfl (Nat.le_of_ble_eq_true rfl) ⟨Nat.le_of_ble_eq_true rfl, Nat.le_of_ble_eq_true rfl⟩ (fun H locs hP hD hS => ?_)
  refine lv_i2l (v := (((gX0_plusUnits S p0 p1 p2).1).toInt64)) hx hb dL_plusUnits_9 (by first | rfl | decide) ?_
  refine va_putN (D := gD G) (cl := vwCl) (tys := gT G) (ci := 3) (v := .long (((gX0_plusUnits S p0 p1 p2).1).toInt64)) (ty := .long) (C := RX1) (T := TX1) (N := 2) hx hb hw inB_X1 tyX1 tyX1_ok nmX1 hown hE.K hP hD hS 0 rfl rfl 0 (by decide) (va_Nw.use rfl hN.2.1) (fun _ h9 => h9) rfl (by decide +kernel) rfl rfl (Nat.le_of_ble_eq_true rfl) dL_plusUnits_10 (fun H locs hP hD hS => ?_)
  refine lv_goto (tgt := 24) hx hb dL_plusUnits_13 (by decide) ?_
  refine lv_iconst (v := (0 : Int32)) hx hb dL_plusUnits_24 (by decide) ?_
  exact we_h hx hb hr hk hP hD hS (Nat.le_of_ble_eq_true rfl) (Nat.le_of_ble_eq_true rfl) dL_plusUnits_25

set_option maxRecDepth 100000 in
set_option maxHeartbeats 4000000 in
theorem hI_year (l : Launch) (hl9 : l.stackTraces = false) (G : GT) (a : Nat → Nat) (o : Nat) (n : Int64) (sv : Value) (S : SX) (p0 : Int32) (hbad : ¬ (vp_in p0 6)) : HE l G yL_year cL_year 4 [(0, 10, 13, 25)] 10 1 6 [.ref (a 0), .int p0, .ref o] (wH G a o n sv S) (wH G a o n sv S) (1 : Int32) := by
  refine HE.ofW (own := RL) rfl (by decide +kernel) (Nat.le_of_ble_eq_true rfl) ?_
  intro p e s m below meth c A C hr hk hT hN hE hP hD hA hAB hS ls hl
  have hx := C.1
  have hb := C.2.1
  have hown := C.2.2.2.1
  have hw := C.2.2.2.2
  have hl : lv_has ls 4 [(0, .ref (a 0)), (1, .int p0), (2, .ref o)] := hl
  have hPX : va_P (gD G) vwCl (wX G a S) s.heap := P_tail hP
  refine lv_aload_n hx hb dL_year_0 rfl (lv_at hl 2 rfl) ?_
  refine lv_aload_n hx hb dL_year_1 rfl (lv_at hl 0 rfl) ?_
  refine lv_iload_n hx hb dL_year_2 rfl (lv_at hl 1 rfl) ?_
  refine thV (as := [.int p0]) (rest := [.ref o]) (cl := RX0) C (tI_X0_year l hl9 G a p0 hbad) F_X0_year rfl bw686 bw687 bw688 hE hS hA (va_recv hE.K hPX (ci := 2) (q0 := 0) rfl rfl) hl.1 dL_year_3 ⟨Nat.le_of_ble_eq_true rfl, Nat.le_of_ble_eq_true rfl⟩ rfl (Nat.le_of_ble_eq_true rfl) ⟨Nat.le_of_ble_eq_true rfl, Nat.le_of_ble_eq_true rfl⟩ (fun q9 ce H1 locs1 hz ho hS1 hce hcv hcl => ?_)
  refine vx_catch hown [] ⟨0, 10, 13, 25⟩ [] (hT.trans rfl) (fun z hz => nomatch hz) (by decide) (by decide) (hw _ bw382) (castXX (hw _ bw391)) hce hcv hcl ?_
  refine lv_astore_n (lv' := [(3, .ref q9), (0, .ref (a 0)), (1, .int p0), (2, .ref o)]) hx hb dL_year_13 rfl hl (Nat.le_of_ble_eq_true rfl) rfl (fun ls hl => ?_)
  refine lv_iconst (v := (1 : Int32)) hx hb dL_year_14 (by decide) ?_
  exact we_h hx hb hr hk (P_old hP ho) hD hS1 (Nat.le_of_ble_eq_true rfl) (Nat.le_of_ble_eq_true rfl) dL_year_15

set_option maxRecDepth 100000 in
set_option maxHeartbeats 4000000 in
theorem hG_year (l : Launch) (hl9 : l.stackTraces = false) (G : GT) (a : Nat → Nat) (o : Nat) (n : Int64) (sv : Value) (S : SX) (p0 : Int32) (h0 : vp_in p0 6) : HE l G yL_year cL_year 4 [(0, 10, 13, 25)] 10 0 0 [.ref (a 0), .int p0, .ref o] (wH G a o n sv S) (wH G a o ((fX0_year S p0).toInt64) sv S) (0 : Int32) := by
  refine HE.ofW (own := RL) rfl (by decide +kernel) (Nat.le_of_ble_eq_true rfl) ?_
  intro p e s m below meth c A C hr hk hT hN hE hP hD hA hAB hS ls hl
  have hx := C.1
  have hb := C.2.1
  have hown := C.2.2.2.1
  have hw := C.2.2.2.2
  have hl : lv_has ls 4 [(0, .ref (a 0)), (1, .int p0), (2, .ref o)] := hl
  have hPX : va_P (gD G) vwCl (wX G a S) s.heap := P_tail hP
  refine lv_aload_n hx hb dL_year_0 rfl (lv_at hl 2 rfl) ?_
  refine lv_aload_n hx hb dL_year_1 rfl (lv_at hl 0 rfl) ?_
  refine lv_iload_n hx hb dL_year_2 rfl (lv_at hl 1 rfl) ?_
  refine rcVi (as := [.int p0]) (rest := [.ref o]) (cl := RX0) C (c_X0_year l G a S p0 h0) F_X0_year rfl bw686 bw687 bw688 hE hPX (va_recv hE.K hPX (ci := 2) (q0 := 0) rfl rfl) hl.1 dL_year_3 ⟨Nat.le_of_ble_eq_true rfl, Nat.le_of_ble_eq_true rfl⟩ rfl (Nat.le_of_ble_eq_true rfl) ⟨Nat.le_of_ble_eq_true rfl, Nat.le_of_ble_eq_true rfl⟩ ?_
  refine lv_i2l (v := ((fX0_year S p0).toInt64)) hx hb dL_year_6 (by first | rfl | decide) ?_
  refine va_putN (D := gD G) (cl := vwCl) (tys := gT G) (ci := 3) (v := .long ((fX0_year S p0).toInt64)) (ty := .long) (C := RX1) (T := TX1) (N := 2) hx hb hw inB_X1 tyX1 tyX1_ok nmX1 hown hE.K hP hD hS 0 rfl rfl 0 (by decide) (va_Nw.use rfl hN.2.1) (fun _ h9 => h9) rfl (by decide +kernel) rfl rfl (Nat.le_of_ble_eq_true rfl) dL_year_7 (fun H locs hP hD hS => ?_)
  refine lv_goto (tgt := 16) hx hb dL_year_10 (by decide) ?_
  refine lv_iconst (v := (0 : Int32)) hx hb dL_year_16 (by decide) ?_
  exact we_h hx hb hr hk hP hD hS (Nat.le_of_ble_eq_true rfl) (Nat.le_of_ble_eq_true rfl) dL_year_17

set_option maxRecDepth 100000 in
set_option maxHeartbeats 4000000 in
theorem hI_month (l : Launch) (hl9 : l.stackTraces = false) (G : GT) (a : Nat → Nat) (o : Nat) (n : Int64) (sv : Value) (S : SX) (p0 : Int32) (hbad : ¬ (vp_in p0 6)) : HE l G yL_month cL_month 4 [(0, 10, 13, 25)] 10 1 6 [.ref (a 0), .int p0, .ref o] (wH G a o n sv S) (wH G a o n sv S) (1 : Int32) := by
  refine HE.ofW (own := RL) rfl (by decide +kernel) (Nat.le_of_ble_eq_true rfl) ?_
  intro p e s m below meth c A C hr hk hT hN hE hP hD hA hAB hS ls hl
  have hx := C.1
  have hb := C.2.1
  have hown := C.2.2.2.1
  have hw := C.2.2.2.2
  have hl : lv_has ls 4 [(0, .ref (a 0)), (1, .int p0), (2, .ref o)] := hl
  have hPX : va_P (gD G) vwCl (wX G a S) s.heap := P_tail hP
  refine lv_aload_n hx hb dL_month_0 rfl (lv_at hl 2 rfl) ?_
  refine lv_aload_n hx hb dL_month_1 rfl (lv_at hl 0 rfl) ?_
  refine lv_iload_n hx hb dL_month_2 rfl (lv_at hl 1 rfl) ?_
  refine thV (as := [.int p0]) (rest := [.ref o]) (cl := RX0) C (tI_X0_month l hl9 G a p0 hbad) F_X0_month rfl bw693 bw694 bw695 hE hS hA (va_recv hE.K hPX (ci := 2) (q0 := 0) rfl rfl) hl.1 dL_month_3 ⟨Nat.le_of_ble_eq_true rfl, Nat.le_of_ble_eq_true rfl⟩ rfl (Nat.le_of_ble_eq_true rfl) ⟨Nat.le_of_ble_eq_true rfl, Nat.le_of_ble_eq_true rfl⟩ (fun q9 ce H1 locs1 hz ho hS1 hce hcv hcl => ?_)
  refine vx_catch hown [] ⟨0, 10, 13, 25⟩ [] (hT.trans rfl) (fun z hz => nomatch hz) (by decide) (by decide) (hw _ bw382) (castXX (hw _ bw391)) hce hcv hcl ?_
  refine lv_astore_n (lv' := [(3, .ref q9), (0, .ref (a 0)), (1, .int p0), (2, .ref o)]) hx hb dL_month_13 rfl hl (Nat.le_of_ble_eq_true rfl) rfl (fun ls hl => ?_)
  refine lv_iconst (v := (1 : Int32)) hx hb dL_month_14 (by decide) ?_
  exact we_h hx hb hr hk (P_old hP ho) hD hS1 (Nat.le_of_ble_eq_true rfl) (Nat.le_of_ble_eq_true rfl) dL_month_15

set_option maxRecDepth 100000 in
set_option maxHeartbeats 4000000 in
theorem hG_month (l : Launch) (hl9 : l.stackTraces = false) (G : GT) (a : Nat → Nat) (o : Nat) (n : Int64) (sv : Value) (S : SX) (p0 : Int32) (h0 : vp_in p0 6) : HE l G yL_month cL_month 4 [(0, 10, 13, 25)] 10 0 0 [.ref (a 0), .int p0, .ref o] (wH G a o n sv S) (wH G a o ((fX0_month S p0).toInt64) sv S) (0 : Int32) := by
  refine HE.ofW (own := RL) rfl (by decide +kernel) (Nat.le_of_ble_eq_true rfl) ?_
  intro p e s m below meth c A C hr hk hT hN hE hP hD hA hAB hS ls hl
  have hx := C.1
  have hb := C.2.1
  have hown := C.2.2.2.1
  have hw := C.2.2.2.2
  have hl : lv_has ls 4 [(0, .ref (a 0)), (1, .int p0), (2, .ref o)] := hl
  have hPX : va_P (gD G) vwCl (wX G a S) s.heap := P_tail hP
  refine lv_aload_n hx hb dL_month_0 rfl (lv_at hl 2 rfl) ?_
  refine lv_aload_n hx hb dL_month_1 rfl (lv_at hl 0 rfl) ?_
  refine lv_iload_n hx hb dL_month_2 rfl (lv_at hl 1 rfl) ?_
  refine rcVi (as := [.int p0]) (rest := [.ref o]) (cl := RX0) C (c_X0_month l G a S p0 h0) F_X0_month rfl bw693 bw694 bw695 hE hPX (va_recv hE.K hPX (ci := 2) (q0 := 0) rfl rfl) hl.1 dL_month_3 ⟨Nat.le_of_ble_eq_true rfl, Nat.le_of_ble_eq_true rfl⟩ rfl (Nat.le_of_ble_eq_true rfl) ⟨Nat.le_of_ble_eq_true rfl, Nat.le_of_ble_eq_true rfl⟩ ?_
  refine lv_i2l (v := ((fX0_month S p0).toInt64)) hx hb dL_month_6 (by first | rfl | decide) ?_
  refine va_putN (D := gD G) (cl := vwCl) (tys := gT G) (ci := 3) (v := .long ((fX0_month S p0).toInt64)) (ty := .long) (C := RX1) (T := TX1) (N := 2) hx hb hw inB_X1 tyX1 tyX1_ok nmX1 hown hE.K hP hD hS 0 rfl rfl 0 (by decide) (va_Nw.use rfl hN.2.1) (fun _ h9 => h9) rfl (by decide +kernel) rfl rfl (Nat.le_of_ble_eq_true rfl) dL_month_7 (fun H locs hP hD hS => ?_)
  refine lv_goto (tgt := 16) hx hb dL_month_10 (by decide) ?_
  refine lv_iconst (v := (0 : Int32)) hx hb dL_month_16 (by decide) ?_
  exact we_h hx hb hr hk hP hD hS (Nat.le_of_ble_eq_true rfl) (Nat.le_of_ble_eq_true rfl) dL_month_17

set_option maxRecDepth 100000 in
set_option maxHeartbeats 4000000 in
theorem hI_dayOfMonth (l : Launch) (hl9 : l.stackTraces = false) (G : GT) (a : Nat → Nat) (o : Nat) (n : Int64) (sv : Value) (S : SX) (p0 : Int32) (hbad : ¬ (vp_in p0 6)) : HE l G yL_dayOfMonth cL_dayOfMonth 4 [(0, 10, 13, 25)] 10 1 6 [.ref (a 0), .int p0, .ref o] (wH G a o n sv S) (wH G a o n sv S) (1 : Int32) := by
  refine HE.ofW (own := RL) rfl (by decide +kernel) (Nat.le_of_ble_eq_true rfl) ?_
  intro p e s m below meth c A C hr hk hT hN hE hP hD hA hAB hS ls hl
  have hx := C.1
  have hb := C.2.1
  have hown := C.2.2.2.1
  have hw := C.2.2.2.2
  have hl : lv_has ls 4 [(0, .ref (a 0)), (1, .int p0), (2, .ref o)] := hl
  have hPX : va_P (gD G) vwCl (wX G a S) s.heap := P_tail hP
  refine lv_aload_n hx hb dL_dayOfMonth_0 rfl (lv_at hl 2 rfl) ?_
  refine lv_aload_n hx hb dL_dayOfMonth_1 rfl (lv_at hl 0 rfl) ?_
  refine lv_iload_n hx hb dL_dayOfMonth_2 rfl (lv_at hl 1 rfl) ?_
  refine thV (as := [.int p0]) (rest := [.ref o]) (cl := RX0) C (tI_X0_dayOfMonth l hl9 G a p0 hbad) F_X0_dayOfMonth rfl bw700 bw701 bw702 hE hS hA (va_recv hE.K hPX (ci := 2) (q0 := 0) rfl rfl) hl.1 dL_dayOfMonth_3 ⟨Nat.le_of_ble_eq_true rfl, Nat.le_of_ble_eq_true rfl⟩ rfl (Nat.le_of_ble_eq_true rfl) ⟨Nat.le_of_ble_eq_true rfl, Nat.le_of_ble_eq_true rfl⟩ (fun q9 ce H1 locs1 hz ho hS1 hce hcv hcl => ?_)
  refine vx_catch hown [] ⟨0, 10, 13, 25⟩ [] (hT.trans rfl) (fun z hz => nomatch hz) (by decide) (by decide) (hw _ bw382) (castXX (hw _ bw391)) hce hcv hcl ?_
  refine lv_astore_n (lv' := [(3, .ref q9), (0, .ref (a 0)), (1, .int p0), (2, .ref o)]) hx hb dL_dayOfMonth_13 rfl hl (Nat.le_of_ble_eq_true rfl) rfl (fun ls hl => ?_)
  refine lv_iconst (v := (1 : Int32)) hx hb dL_dayOfMonth_14 (by decide) ?_
  exact we_h hx hb hr hk (P_old hP ho) hD hS1 (Nat.le_of_ble_eq_true rfl) (Nat.le_of_ble_eq_true rfl) dL_dayOfMonth_15

set_option maxRecDepth 100000 in
set_option maxHeartbeats 4000000 in
theorem hG_dayOfMonth (l : Launch) (hl9 : l.stackTraces = false) (G : GT) (a : Nat → Nat) (o : Nat) (n : Int64) (sv : Value) (S : SX) (p0 : Int32) (h0 : vp_in p0 6) : HE l G yL_dayOfMonth cL_dayOfMonth 4 [(0, 10, 13, 25)] 10 0 0 [.ref (a 0), .int p0, .ref o] (wH G a o n sv S) (wH G a o ((fX0_dayOfMonth S p0).toInt64) sv S) (0 : Int32) := by
  refine HE.ofW (own := RL) rfl (by decide +kernel) (Nat.le_of_ble_eq_true rfl) ?_
  intro p e s m below meth c A C hr hk hT hN hE hP hD hA hAB hS ls hl
  have hx := C.1
  have hb := C.2.1
  have hown := C.2.2.2.1
  have hw := C.2.2.2.2
  have hl : lv_has ls 4 [(0, .ref (a 0)), (1, .int p0), (2, .ref o)] := hl
  have hPX : va_P (gD G) vwCl (wX G a S) s.heap := P_tail hP
  refine lv_aload_n hx hb dL_dayOfMonth_0 rfl (lv_at hl 2 rfl) ?_
  refine lv_aload_n hx hb dL_dayOfMonth_1 rfl (lv_at hl 0 rfl) ?_
  refine lv_iload_n hx hb dL_dayOfMonth_2 rfl (lv_at hl 1 rfl) ?_
  refine rcVi (as := [.int p0]) (rest := [.ref o]) (cl := RX0) C (c_X0_dayOfMonth l G a S p0 h0) F_X0_dayOfMonth rfl bw700 bw701 bw702 hE hPX (va_recv hE.K hPX (ci := 2) (q0 := 0) rfl rfl) hl.1 dL_dayOfMonth_3 ⟨Nat.le_of_ble_eq_true rfl, Nat.le_of_ble_eq_true rfl⟩ rfl (Nat.le_of_ble_eq_true rfl) ⟨Nat.le_of_ble_eq_true rfl, Nat.le_of_ble_eq_true rfl⟩ ?_
  refine lv_i2l (v := ((fX0_dayOfMonth S p0).toInt64)) hx hb dL_dayOfMonth_6 (by first | rfl | decide) ?_
  refine va_putN (D := gD G) (cl := vwCl) (tys := gT G) (ci := 3) (v := .long ((fX0_dayOfMonth S p0).toInt64)) (ty := .long) (C := RX1) (T := TX1) (N := 2) hx hb hw inB_X1 tyX1 tyX1_ok nmX1 hown hE.K hP hD hS 0 rfl rfl 0 (by decide) (va_Nw.use rfl hN.2.1) (fun _ h9 => h9) rfl (by decide +kernel) rfl rfl (Nat.le_of_ble_eq_true rfl) dL_dayOfMonth_7 (fun H locs hP hD hS => ?_)
  refine lv_goto (tgt := 16) hx hb dL_dayOfMonth_10 (by decide) ?_
  refine lv_iconst (v := (0 : Int32)) hx hb dL_dayOfMonth_16 (by decide) ?_
  exact we_h hx hb hr hk hP hD hS (Nat.le_of_ble_eq_true rfl) (Nat.le_of_ble_eq_true rfl) dL_dayOfMonth_17

set_option maxRecDepth 100000 in
set_option maxHeartbeats 4000000 in
theorem hI_dayOfYear (l : Launch) (hl9 : l.stackTraces = false) (G : GT) (a : Nat → Nat) (o : Nat) (n : Int64) (sv : Value) (S : SX) (p0 : Int32) (hbad : ¬ (vp_in p0 6)) : HE l G yL_dayOfYear cL_dayOfYear 4 [(0, 10, 13, 25)] 10 1 6 [.ref (a 0), .int p0, .ref o] (wH G a o n sv S) (wH G a o n sv S) (1 : Int32) := by
  refine HE.ofW (own := RL) rfl (by decide +kernel) (Nat.le_of_ble_eq_true rfl) ?_
  intro p e s m below meth c A C hr hk hT hN hE hP hD hA hAB hS ls hl
  have hx := C.1
  have hb := C.2.1
  have hown := C.2.2.2.1
  have hw := C.2.2.2.2
  have hl : lv_has ls 4 [(0, .ref (a 0)), (1, .int p0), (2, .ref o)] := hl
  have hPX : va_P (gD G) vwCl (wX G a S) s.heap := P_tail hP
  refine lv_aload_n hx hb dL_dayOfYear_0 rfl (lv_at hl 2 rfl) ?_
  refine lv_aload_n hx hb dL_dayOfYear_1 rfl (lv_at hl 0 rfl) ?_
  refine lv_iload_n hx hb dL_dayOfYear_2 rfl (lv_at hl 1 rfl) ?_
  refine thV (as := [.int p0]) (rest := [.ref o]) (cl := RX0) C (tI_X0_dayOfYear l hl9 G a p0 hbad) F_X0_dayOfYear rfl bw707 bw708 bw709 hE hS hA (va_recv hE.K hPX (ci := 2) (q0 := 0) rfl rfl) hl.1 dL_dayOfYear_3 ⟨Nat.le_of_ble_eq_true rfl, Nat.le_of_ble_eq_true rfl⟩ rfl (Nat.le_of_ble_eq_true rfl) ⟨Nat.le_of_ble_eq_true rfl, Nat.le_of_ble_eq_true rfl⟩ (fun q9 ce H1 locs1 hz ho hS1 hce hcv hcl => ?_)
  refine vx_catch hown [] ⟨0, 10, 13, 25⟩ [] (hT.trans rfl) (fun z hz => nomatch hz) (by decide) (by decide) (hw _ bw382) (castXX (hw _ bw391)) hce hcv hcl ?_
  refine lv_astore_n (lv' := [(3, .ref q9), (0, .ref (a 0)), (1, .int p0), (2, .ref o)]) hx hb dL_dayOfYear_13 rfl hl (Nat.le_of_ble_eq_true rfl) rfl (fun ls hl => ?_)
  refine lv_iconst (v := (1 : Int32)) hx hb dL_dayOfYear_14 (by decide) ?_
  exact we_h hx hb hr hk (P_old hP ho) hD hS1 (Nat.le_of_ble_eq_true rfl) (Nat.le_of_ble_eq_true rfl) dL_dayOfYear_15

