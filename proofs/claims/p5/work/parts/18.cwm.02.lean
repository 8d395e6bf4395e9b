set_option maxRecDepth 100000 in
set_option maxHeartbeats 4000000 in
theorem c_X2_onMonths (l : Launch) (G : GT) (b : Nat → Nat) (T : SM) (p0 : Int32) (p1 : Int64) (h0 : vp_in p0 6) (hT : MO T) : WR l G yX2_onMonths cX2_onMonths 8 (some .int) 9 0 0 [.ref (b 0), .int p0, .long p1] (wM G b T) (wM G b (gX2_onMonths T p0 p1).2) (some (.int (gX2_onMonths T p0 p1).1)) := by
  refine WR.ofW (own := RX2) rfl (by decide +kernel) (Nat.le_of_ble_eq_true rfl) ?_
  intro p e s m below meth c A C hr hk hnm hE hP hD hA hAB hS ls hl
  have hx := C.1
  have hb := C.2.1
  have hown := C.2.2.2.1
  have hw := C.2.2.2.2
  have hl : lv_has ls 8 [(0, .ref (b 0)), (1, .int p0), (2, .long p1)] := hl
  refine lv_ldc2 (v := (12 : Int64)) hx hb hown (hw _ bw1368) dX2_onMonths_0 ?_
  refine lv_aload_n hx hb dX2_onMonths_3 rfl (lv_at hl 0 rfl) ?_
  refine va_get (D := gD G) (cl := vwCl) (tys := gT G) (ci := 4) (v := .ref (b 1)) (C := RX2) (T := TX2) (N := 12) hx hb hw inB_X2 hown hE.K hP 0 rfl rfl 1 (by decide) (hw _ bw1164) (fun _ h9 => h9) rfl dX2_onMonths_4 ?_
  refine lv_iload_n hx hb dX2_onMonths_7 rfl (lv_at hl 1 rfl) ?_
  refine va_iald (tys := gT G) hx hb hE.K hP 1 0 rfl rfl h0 dX2_onMonths_8 ?_
  refine lv_i2l (v := (((my T) p0.toNatClampNeg).toInt64)) hx hb dX2_onMonths_9 (by first | rfl | decide) ?_
  refine lv_lmul hx hb dX2_onMonths_10 ?_
  refine lv_aload_n hx hb dX2_onMonths_11 rfl (lv_at hl 0 rfl) ?_
  refine va_get (D := gD G) (cl := vwCl) (tys := gT G) (ci := 4) (v := .ref (b 2)) (C := RX2) (T := TX2) (N := 12) hx hb hw inB_X2 hown hE.K hP 0 rfl rfl 2 (by decide) (hw _ bw1165) (fun _ h9 => h9) rfl dX2_onMonths_12 ?_
  refine lv_iload_n hx hb dX2_onMonths_15 rfl (lv_at hl 1 rfl) ?_
  refine va_iald (tys := gT G) hx hb hE.K hP 2 0 rfl rfl h0 dX2_onMonths_16 ?_
  refine lv_i2l (v := (((mm T) p0.toNatClampNeg).toInt64)) hx hb dX2_onMonths_17 (by first | rfl | decide) ?_
  refine lv_ladd hx hb dX2_onMonths_18 ?_
  refine lv_lconst (v := (1 : Int64)) hx hb dX2_onMonths_19 (by decide) ?_
  refine lv_lsub hx hb dX2_onMonths_20 ?_
  refine lv_lload_n hx hb dX2_onMonths_21 rfl (lv_at hl 2 rfl) ?_
  refine lv_ladd hx hb dX2_onMonths_22 ?_
  refine lv_lstore (lv' := [(4, .long (((((12 : Int64) * (((my T) p0.toNatClampNeg).toInt64)) + (((mm T) p0.toNatClampNeg).toInt64)) - (1 : Int64)) + p1)), (0, .ref (b 0)), (1, .int p0), (2, .long p1)]) hx hb dX2_onMonths_23 hl (Nat.le_of_ble_eq_true rfl) rfl (fun ls hl => ?_)
  refine lv_lload hx hb dX2_onMonths_25 (lv_at hl 0 rfl) ?_
  refine lv_ldc2 (v := (12 : Int64)) hx hb hown (hw _ bw1368) dX2_onMonths_27 ?_
  refine rcSl (as := [.long (((((12 : Int64) * (((my T) p0.toNatClampNeg).toInt64)) + (((mm T) p0.toNatClampNeg).toInt64)) - (1 : Int64)) + p1), .long (12 : Int64)]) (rest := []) C (c_X2_floor l G (((((12 : Int64) * (((my T) p0.toNatClampNeg).toInt64)) + (((mm T) p0.toNatClampNeg).toInt64)) - (1 : Int64)) + p1) (12 : Int64) (by decide)) F_X2_floor rfl bw1260 bw1261 (hE.S hS hAB) vpn hl.1 dX2_onMonths_30 ⟨Nat.le_of_ble_eq_true rfl, Nat.le_of_ble_eq_true rfl⟩ rfl (Nat.le_of_ble_eq_true rfl) ⟨Nat.le_of_ble_eq_true rfl, Nat.le_of_ble_eq_true rfl⟩ ?_
  refine lv_lstore (lv' := [(6, .long (fX2_floor (((((12 : Int64) * (((my T) p0.toNatClampNeg).toInt64)) + (((mm T) p0.toNatClampNeg).toInt64)) - (1 : Int64)) + p1) (12 : Int64))), (4, .long (((((12 : Int64) * (((my T) p0.toNatClampNeg).toInt64)) + (((mm T) p0.toNatClampNeg).toInt64)) - (1 : Int64)) + p1)), (0, .ref (b 0)), (1, .int p0), (2, .long p1)]) hx hb dX2_onMonths_33 hl (Nat.le_of_ble_eq_true rfl) rfl (fun ls hl => ?_)
  refine lv_aload_n hx hb dX2_onMonths_35 rfl (lv_at hl 2 rfl) ?_
  refine lv_iload_n hx hb dX2_onMonths_36 rfl (lv_at hl 3 rfl) ?_
  refine lv_lload hx hb dX2_onMonths_37 (lv_at hl 0 rfl) ?_
  refine lv_lload hx hb dX2_onMonths_39 (lv_at hl 1 rfl) ?_
  refine lv_ldc2 (v := (12 : Int64)) hx hb hown (hw _ bw1368) dX2_onMonths_41 ?_
  refine lv_lload hx hb dX2_onMonths_44 (lv_at hl 0 rfl) ?_
  refine lv_lmul hx hb dX2_onMonths_46 ?_
  refine lv_lsub hx hb dX2_onMonths_47 ?_
  refine lv_l2i (v := (((((((12 : Int64) * (((my T) p0.toNatClampNeg).toInt64)) + (((mm T) p0.toNatClampNeg).toInt64)) - (1 : Int64)) + p1) - ((12 : Int64) * (fX2_floor (((((12 : Int64) * (((my T) p0.toNatClampNeg).toInt64)) + (((mm T) p0.toNatClampNeg).toInt64)) - (1 : Int64)) + p1) (12 : Int64)))).toInt32)) hx hb dX2_onMonths_48 (by first | rfl | decide) ?_
  refine lv_iconst (v := (1 : Int32)) hx hb dX2_onMonths_49 (by decide) ?_
  refine lv_iadd hx hb dX2_onMonths_50 ?_
  refine wcVi (as := [.int p0, .long (fX2_floor (((((12 : Int64) * (((my T) p0.toNatClampNeg).toInt64)) + (((mm T) p0.toNatClampNeg).toInt64)) - (1 : Int64)) + p1) (12 : Int64)), .int ((((((((12 : Int64) * (((my T) p0.toNatClampNeg).toInt64)) + (((mm T) p0.toNatClampNeg).toInt64)) - (1 : Int64)) + p1) - ((12 : Int64) * (fX2_floor (((((12 : Int64) * (((my T) p0.toNatClampNeg).toInt64)) + (((mm T) p0.toNatClampNeg).toInt64)) - (1 : Int64)) + p1) (12 : Int64)))).toInt32) + (1 : Int32))]) (rest := []) (cl := RX2) C (c_X2_becomeMonth l G b T p0 (fX2_floor (((((12 : Int64) * (((my T) p0.toNatClampNeg).toInt64)) + (((mm T) p0.toNatClampNeg).toInt64)) - (1 : Int64)) + p1) (12 : Int64)) ((((((((12 : Int64) * (((my T) p0.toNatClampNeg).toInt64)) + (((mm T) p0.toNatClampNeg).toInt64)) - (1 : Int64)) + p1) - ((12 : Int64) * (fX2_floor (((((12 : Int64) * (((my T) p0.toNatClampNeg).toInt64)) + (((mm T) p0.toNatClampNeg).toInt64)) - (1 : Int64)) + p1) (12 : Int64)))).toInt32) + (1 : Int32)) h0 hT (mon12 _)) F_X2_becomeMonth rfl bw1308 bw1310 bw40 (hE.S hS hAB) hP hD hS hA hAB (va_recv hE.K hP (ci := 4) (q0 := 0) rfl rfl) hl.1 dX2_onMonths_51 ⟨Nat.le_of_ble_eq_true rfl, Nat.le_of_ble_eq_true rfl⟩ rfl (Nat.le_of_ble_eq_true rfl) ⟨Nat.le_of_ble_eq_true rfl, Nat.le_of_ble_eq_true rfl⟩ (fun H locs hP hD hS => ?_)
  exact we_i (wf := wM G b) hx hb hr hk hP hD hS (Nat.le_of_ble_eq_true rfl) (Nat.le_of_ble_eq_true rfl) dX2_onMonths_54 rfl

set_option maxRecDepth 100000 in
set_option maxHeartbeats 4000000 in
theorem c_X2_onLine (l : Launch) (G : GT) (b : Nat → Nat) (T : SM) (p0 : Int32) (p1 : Int64) (p2 : Int64) (h0 : vp_in p0 6) (hT : MO T) (n2 : ¬ p2 = 0) (n3 : ¬ ((86400000000000 : Int64) / p2) = 0) : WR l G yX2_onLine cX2_onLine 12 (some .int) 9 1 3 [.ref (b 0), .int p0, .long p1, .long p2] (wM G b T) (wM G b (gX2_onLine T p0 p1 p2).2) (some (.int (gX2_onLine T p0 p1 p2).1)) := by
  refine WR.ofW (own := RX2) rfl (by decide +kernel) (Nat.le_of_ble_eq_true rfl) ?_
  intro p e s m below meth c A C hr hk hnm hE hP hD hA hAB hS ls hl
  have hx := C.1
  have hb := C.2.1
  have hown := C.2.2.2.1
  have hw := C.2.2.2.2
  have hl : lv_has ls 12 [(0, .ref (b 0)), (1, .int p0), (2, .long p1), (4, .long p2)] := hl
  refine lv_ldc2 (v := (86400000000000 : Int64)) hx hb hown (hw _ bw1360) dX2_onLine_0 ?_
  refine lv_lload hx hb dX2_onLine_3 (lv_at hl 3 rfl) ?_
  refine lv_ldiv hx hb dX2_onLine_5 n2 ?_
  refine lv_lstore (lv' := [(6, .long ((86400000000000 : Int64) / p2)), (0, .ref (b 0)), (1, .int p0), (2, .long p1), (4, .long p2)]) hx hb dX2_onLine_6 hl (Nat.le_of_ble_eq_true rfl) rfl (fun ls hl => ?_)
  refine lv_lload_n hx hb dX2_onLine_8 rfl (lv_at hl 3 rfl) ?_
  refine lv_lload hx hb dX2_onLine_9 (lv_at hl 0 rfl) ?_
  refine rcSl (as := [.long p1, .long ((86400000000000 : Int64) / p2)]) (rest := []) C (c_X2_floor l G p1 ((86400000000000 : Int64) / p2) n3) F_X2_floor rfl bw1260 bw1261 (hE.S hS hAB) vpn hl.1 dX2_onLine_11 ⟨Nat.le_of_ble_eq_true rfl, Nat.le_of_ble_eq_true rfl⟩ rfl (Nat.le_of_ble_eq_true rfl) ⟨Nat.le_of_ble_eq_true rfl, Nat.le_of_ble_eq_true rfl⟩ ?_
  refine lv_lstore (lv' := [(8, .long (fX2_floor p1 ((86400000000000 : Int64) / p2))), (6, .long ((86400000000000 : Int64) / p2)), (0, .ref (b 0)), (1, .int p0), (2, .long p1), (4, .long p2)]) hx hb dX2_onLine_14 hl (Nat.le_of_ble_eq_true rfl) rfl (fun ls hl => ?_)
  refine lv_aload_n hx hb dX2_onLine_16 rfl (lv_at hl 2 rfl) ?_
  refine va_get (D := gD G) (cl := vwCl) (tys := gT G) (ci := 4) (v := .ref (b 4)) (C := RX2) (T := TX2) (N := 12) hx hb hw inB_X2 hown hE.K hP 0 rfl rfl 4 (by decide) (hw _ bw1167) (fun _ h9 => h9) rfl dX2_onLine_17 ?_
  refine lv_iload_n hx hb dX2_onLine_20 rfl (lv_at hl 3 rfl) ?_
  refine va_lald (tys := gT G) hx hb hE.K hP 4 1 rfl rfl h0 dX2_onLine_21 ?_
  refine lv_lload_n hx hb dX2_onLine_22 rfl (lv_at hl 4 rfl) ?_
  refine lv_lload hx hb dX2_onLine_23 (lv_at hl 0 rfl) ?_
  refine lv_lload hx hb dX2_onLine_25 (lv_at hl 1 rfl) ?_
  refine lv_lmul hx hb dX2_onLine_27 ?_
  refine lv_lsub hx hb dX2_onLine_28 ?_
  refine lv_lload hx hb dX2_onLine_29 (lv_at hl 5 rfl) ?_
  refine lv_lmul hx hb dX2_onLine_31 ?_
  refine lv_ladd hx hb dX2_onLine_32 ?_
  refine lv_lstore (lv' := [(10, .long (((mt T) p0.toNatClampNeg) + ((p1 - ((fX2_floor p1 ((86400000000000 : Int64) / p2)) * ((86400000000000 : Int64) / p2))) * p2))), (8, .long (fX2_floor p1 ((86400000000000 : Int64) / p2))), (6, .long ((86400000000000 : Int64) / p2)), (0, .ref (b 0)), (1, .int p0), (2, .long p1), (4, .long p2)]) hx hb dX2_onLine_33 hl (Nat.le_of_ble_eq_true rfl) rfl (fun ls hl => ?_)
  refine lv_aload_n hx hb dX2_onLine_35 rfl (lv_at hl 3 rfl) ?_
  refine lv_iload_n hx hb dX2_onLine_36 rfl (lv_at hl 4 rfl) ?_
  refine lv_aload_n hx hb dX2_onLine_37 rfl (lv_at hl 3 rfl) ?_
  refine lv_iload_n hx hb dX2_onLine_38 rfl (lv_at hl 4 rfl) ?_
  refine rcVl (as := [.int p0]) (rest := [.int p0, .ref (b 0)]) (cl := RX2) C (c_X2_dayNow l G b T p0 h0 hT) F_X2_dayNow rfl bw1247 bw1249 bw38 (hE.S hS hAB) hP (va_recv hE.K hP (ci := 4) (q0 := 0) rfl rfl) hl.1 dX2_onLine_39 ⟨Nat.le_of_ble_eq_true rfl, Nat.le_of_ble_eq_true rfl⟩ rfl (Nat.le_of_ble_eq_true rfl) ⟨Nat.le_of_ble_eq_true rfl, Nat.le_of_ble_eq_true rfl⟩ ?_
  refine lv_lload hx hb dX2_onLine_42 (lv_at hl 1 rfl) ?_
  refine lv_ladd hx hb dX2_onLine_44 ?_
  refine lv_lload hx hb dX2_onLine_45 (lv_at hl 0 rfl) ?_
  refine lv_ldc2 (v := (86400000000000 : Int64)) hx hb hown (hw _ bw1360) dX2_onLine_47 ?_
  refine lv_ldiv hx hb dX2_onLine_50 (by decide) ?_
  refine lv_ladd hx hb dX2_onLine_51 ?_
  refine lv_lload hx hb dX2_onLine_52 (lv_at hl 0 rfl) ?_
  refine lv_ldc2 (v := (86400000000000 : Int64)) hx hb hown (hw _ bw1360) dX2_onLine_54 ?_
  refine lv_lrem hx hb dX2_onLine_57 (by decide) ?_
  refine wcVi (as := [.int p0, .long (((fX2_dayNow T p0) + (fX2_floor p1 ((86400000000000 : Int64) / p2))) + ((((mt T) p0.toNatClampNeg) + ((p1 - ((fX2_floor p1 ((86400000000000 : Int64) / p2)) * ((86400000000000 : Int64) / p2))) * p2)) / (86400000000000 : Int64))), .long ((((mt T) p0.toNatClampNeg) + ((p1 - ((fX2_floor p1 ((86400000000000 : Int64) / p2)) * ((86400000000000 : Int64) / p2))) * p2)) - (((mt T) p0.toNatClampNeg) + ((p1 - ((fX2_floor p1 ((86400000000000 : Int64) / p2)) * ((86400000000000 : Int64) / p2))) * p2)) / (86400000000000 : Int64) * (86400000000000 : Int64))]) (rest := []) (cl := RX2) C (c_X2_becomeDay l G b T p0 (((fX2_dayNow T p0) + (fX2_floor p1 ((86400000000000 : Int64) / p2))) + ((((mt T) p0.toNatClampNeg) + ((p1 - ((fX2_floor p1 ((86400000000000 : Int64) / p2)) * ((86400000000000 : Int64) / p2))) * p2)) / (86400000000000 : Int64))) ((((mt T) p0.toNatClampNeg) + ((p1 - ((fX2_floor p1 ((86400000000000 : Int64) / p2)) * ((86400000000000 : Int64) / p2))) * p2)) - (((mt T) p0.toNatClampNeg) + ((p1 - ((fX2_floor p1 ((86400000000000 : Int64) / p2)) * ((86400000000000 : Int64) / p2))) * p2)) / (86400000000000 : Int64) * (86400000000000 : Int64)) h0 hT) F_X2_becomeDay rfl bw1281 bw1283 bw39 (hE.S hS hAB) hP hD hS hA hAB (va_recv hE.K hP (ci := 4) (q0 := 0) rfl rfl) hl.1 dX2_onLine_58 ⟨Nat.le_of_ble_eq_true rfl, Nat.le_of_ble_eq_true rfl⟩ rfl (Nat.le_of_ble_eq_true rfl) ⟨Nat.le_of_ble_eq_true rfl, Nat.le_of_ble_eq_true rfl⟩ (fun H locs hP hD hS => ?_)
  exact we_i (wf := wM G b) hx hb hr hk hP hD hS (Nat.le_of_ble_eq_true rfl) (Nat.le_of_ble_eq_true rfl) dX2_onLine_61 rfl

set_option maxRecDepth 100000 in
set_option maxHeartbeats 4000000 in
theorem c_X2_withPart (l : Launch) (G : GT) (b : Nat → Nat) (T : SM) (p0 : Int32) (p1 : Int64) (p2 : Int64) (p3 : Int64) (h0 : vp_in p0 6) (hT : MO T) (n1 : ¬ p1 = 0) (n3 : ¬ (p1 * p2) = 0) : WR l G yX2_withPart cX2_withPart 10 (some .int) 8 0 0 [.ref (b 0), .int p0, .long p1, .long p2, .long p3] (wM G b T) (wM G b (gX2_withPart T p0 p1 p2 p3).2) (some (.int (gX2_withPart T p0 p1 p2 p3).1)) := by
  refine WR.ofW (own := RX2) rfl (by decide +kernel) (Nat.le_of_ble_eq_true rfl) ?_
  intro p e s m below meth c A C hr hk hnm hE hP hD hA hAB hS ls hl
  have hx := C.1
  have hb := C.2.1
  have hown := C.2.2.2.1
  have hw := C.2.2.2.2
  have hl : lv_has ls 10 [(0, .ref (b 0)), (1, .int p0), (2, .long p1), (4, .long p2), (6, .long p3)] := hl
  refine lv_aload_n hx hb dX2_withPart_0 rfl (lv_at hl 0 rfl) ?_
  refine va_get (D := gD G) (cl := vwCl) (tys := gT G) (ci := 4) (v := .ref (b 4)) (C := RX2) (T := TX2) (N := 12) hx hb hw inB_X2 hown hE.K hP 0 rfl rfl 4 (by decide) (hw _ bw1167) (fun _ h9 => h9) rfl dX2_withPart_1 ?_
  refine lv_iload_n hx hb dX2_withPart_4 rfl (lv_at hl 1 rfl) ?_
  refine va_lald (tys := gT G) hx hb hE.K hP 4 1 rfl rfl h0 dX2_withPart_5 ?_
  refine lv_lload_n hx hb dX2_withPart_6 rfl (lv_at hl 2 rfl) ?_
  refine lv_lload hx hb dX2_withPart_7 (lv_at hl 3 rfl) ?_
  refine lv_lmul hx hb dX2_withPart_9 ?_
  refine lv_ldiv hx hb dX2_withPart_10 n3 ?_
  refine lv_lload_n hx hb dX2_withPart_11 rfl (lv_at hl 2 rfl) ?_
  refine lv_lload hx hb dX2_withPart_12 (lv_at hl 3 rfl) ?_
  refine lv_lmul hx hb dX2_withPart_14 ?_
  refine lv_lmul hx hb dX2_withPart_15 ?_
  refine lv_lstore (lv' := [(8, .long ((((mt T) p0.toNatClampNeg) / (p1 * p2)) * (p1 * p2))), (0, .ref (b 0)), (1, .int p0), (2, .long p1), (4, .long p2), (6, .long p3)]) hx hb dX2_withPart_16 hl (Nat.le_of_ble_eq_true rfl) rfl (fun ls hl => ?_)
  refine lv_aload_n hx hb dX2_withPart_18 rfl (lv_at hl 1 rfl) ?_
  refine lv_iload_n hx hb dX2_withPart_19 rfl (lv_at hl 2 rfl) ?_
  refine lv_aload_n hx hb dX2_withPart_20 rfl (lv_at hl 1 rfl) ?_
  refine va_get (D := gD G) (cl := vwCl) (tys := gT G) (ci := 4) (v := .ref (b 1)) (C := RX2) (T := TX2) (N := 12) hx hb hw inB_X2 hown hE.K hP 0 rfl rfl 1 (by decide) (hw _ bw1164) (fun _ h9 => h9) rfl dX2_withPart_21 ?_
  refine lv_iload_n hx hb dX2_withPart_24 rfl (lv_at hl 2 rfl) ?_
  refine va_iald (tys := gT G) hx hb hE.K hP 1 0 rfl rfl h0 dX2_withPart_25 ?_
  refine lv_aload_n hx hb dX2_withPart_26 rfl (lv_at hl 1 rfl) ?_
  refine va_get (D := gD G) (cl := vwCl) (tys := gT G) (ci := 4) (v := .ref (b 2)) (C := RX2) (T := TX2) (N := 12) hx hb hw inB_X2 hown hE.K hP 0 rfl rfl 2 (by decide) (hw _ bw1165) (fun _ h9 => h9) rfl dX2_withPart_27 ?_
  refine lv_iload_n hx hb dX2_withPart_30 rfl (lv_at hl 2 rfl) ?_
  refine va_iald (tys := gT G) hx hb hE.K hP 2 0 rfl rfl h0 dX2_withPart_31 ?_
  refine lv_aload_n hx hb dX2_withPart_32 rfl (lv_at hl 1 rfl) ?_
  refine va_get (D := gD G) (cl := vwCl) (tys := gT G) (ci := 4) (v := .ref (b 3)) (C := RX2) (T := TX2) (N := 12) hx hb hw inB_X2 hown hE.K hP 0 rfl rfl 3 (by decide) (hw _ bw1166) (fun _ h9 => h9) rfl dX2_withPart_33 ?_
  refine lv_iload_n hx hb dX2_withPart_36 rfl (lv_at hl 2 rfl) ?_
  refine va_iald (tys := gT G) hx hb hE.K hP 3 0 rfl rfl h0 dX2_withPart_37 ?_
  refine lv_lload hx hb dX2_withPart_38 (lv_at hl 0 rfl) ?_
  refine lv_lload hx hb dX2_withPart_40 (lv_at hl 5 rfl) ?_
  refine lv_lload_n hx hb dX2_withPart_42 rfl (lv_at hl 3 rfl) ?_
  refine lv_lmul hx hb dX2_withPart_43 ?_
  refine lv_ladd hx hb dX2_withPart_44 ?_
  refine lv_aload_n hx hb dX2_withPart_45 rfl (lv_at hl 1 rfl) ?_
  refine va_get (D := gD G) (cl := vwCl) (tys := gT G) (ci := 4) (v := .ref (b 4)) (C := RX2) (T := TX2) (N := 12) hx hb hw inB_X2 hown hE.K hP 0 rfl rfl 4 (by decide) (hw _ bw1167) (fun _ h9 => h9) rfl dX2_withPart_46 ?_
  refine lv_iload_n hx hb dX2_withPart_49 rfl (lv_at hl 2 rfl) ?_
  refine va_lald (tys := gT G) hx hb hE.K hP 4 1 rfl rfl h0 dX2_withPart_50 ?_
  refine lv_lload_n hx hb dX2_withPart_51 rfl (lv_at hl 3 rfl) ?_
  refine lv_lrem hx hb dX2_withPart_52 n1 ?_
  refine lv_ladd hx hb dX2_withPart_53 ?_
  refine wcVi (as := [.int p0, .int ((my T) p0.toNatClampNeg), .int ((mm T) p0.toNatClampNeg), .int ((md T) p0.toNatClampNeg), .long ((((((mt T) p0.toNatClampNeg) / (p1 * p2)) * (p1 * p2)) + (p3 * p1)) + (((mt T) p0.toNatClampNeg) - ((mt T) p0.toNatClampNeg) / p1 * p1))]) (rest := []) (cl := RX2) C (c_X2_become l G b T p0 ((my T) p0.toNatClampNeg) ((mm T) p0.toNatClampNeg) ((md T) p0.toNatClampNeg) ((((((mt T) p0.toNatClampNeg) / (p1 * p2)) * (p1 * p2)) + (p3 * p1)) + (((mt T) p0.toNatClampNeg) - ((mt T) p0.toNatClampNeg) / p1 * p1)) h0 hT (MO.at hT h0)) F_X2_become rfl bw1239 bw1241 bw36 (hE.S hS hAB) hP hD hS hA hAB (va_recv hE.K hP (ci := 4) (q0 := 0) rfl rfl) hl.1 dX2_withPart_54 ⟨Nat.le_of_ble_eq_true rfl, Nat.le_of_ble_eq_true rfl⟩ rfl (Nat.le_of_ble_eq_true rfl) ⟨Nat.le_of_ble_eq_true rfl, Nat.le_of_ble_eq_true rfl⟩ (fun H locs hP hD hS => ?_)
  exact we_i (wf := wM G b) hx hb hr hk hP hD hS (Nat.le_of_ble_eq_true rfl) (Nat.le_of_ble_eq_true rfl) dX2_withPart_57 rfl

