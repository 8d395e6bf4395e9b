set_option maxRecDepth 100000 in
set_option maxHeartbeats 4000000 in
theorem c_X0_withSecond (l : Launch) (G : GT) (a : Nat → Nat) (S : SX) (p0 : Int32) (p1 : Int32) (h0 : vp_in p0 6) (r1 : ¬ p1 < (0 : Int32)) (q1 : p1 ≤ (59 : Int32)) : WR l G yX0_withSecond cX0_withSecond 5 (some .int) 8 0 0 [.ref (a 0), .int p0, .int p1] (wX G a S) (wX G a (gX0_withSecond S p0 p1).2) (some (.int (gX0_withSecond S p0 p1).1)) := by
  refine WR.ofW (own := RX0) rfl (by decide +kernel) (Nat.le_of_ble_eq_true rfl) ?_
  intro p e s m below meth c A C hr hk hnm hE hP hD hA hAB hS ls hl
  have hx := C.1
  have hb := C.2.1
  have hown := C.2.2.2.1
  have hw := C.2.2.2.2
  have hl : lv_has ls 5 [(0, .ref (a 0)), (1, .int p0), (2, .int p1)] := hl
  refine lv_iload_n hx hb dX0_withSecond_0 rfl (lv_at hl 1 rfl) ?_
  refine rcSv (as := [.int p0]) (rest := []) C (c_X0_checkMoment l G p0 h0) F_X0_checkMoment rfl bw387 bw388 (hE.S hS hAB) vpn hl.1 dX0_withSecond_1 ⟨Nat.le_of_ble_eq_true rfl, Nat.le_of_ble_eq_true rfl⟩ rfl (Nat.le_of_ble_eq_true rfl) ⟨Nat.le_of_ble_eq_true rfl, Nat.le_of_ble_eq_true rfl⟩ ?_
  refine lv_iload_n hx hb dX0_withSecond_4 rfl (lv_at hl 2 rfl) ?_
  refine lv_iconst (v := (0 : Int32)) hx hb dX0_withSecond_5 (by decide) ?_
  refine lv_bipush (v := (59 : Int32)) hx hb dX0_withSecond_6 (by decide) ?_
  refine rcSv (as := [.int p1, .int (0 : Int32), .int (59 : Int32)]) (rest := []) C (c_X0_checkRange l G p1 (0 : Int32) (59 : Int32) r1 q1) F_X0_checkRange rfl bw308 bw309 (hE.S hS hAB) vpn hl.1 dX0_withSecond_8 ⟨Nat.le_of_ble_eq_true rfl, Nat.le_of_ble_eq_true rfl⟩ rfl (Nat.le_of_ble_eq_true rfl) ⟨Nat.le_of_ble_eq_true rfl, Nat.le_of_ble_eq_true rfl⟩ ?_
  refine lv_aload_n hx hb dX0_withSecond_11 rfl (lv_at hl 0 rfl) ?_
  refine va_get (D := gD G) (cl := vwCl) (tys := gT G) (ci := 2) (v := .ref (a 5)) (C := RX0) (T := TX0) (N := 12) hx hb hw inB_X0 hown hE.K hP 0 rfl rfl 4 (by decide) (hw _ bw98) (fun _ h9 => h9) rfl dX0_withSecond_12 ?_
  refine lv_iload_n hx hb dX0_withSecond_15 rfl (lv_at hl 1 rfl) ?_
  refine va_lald (tys := gT G) hx hb hE.K hP 5 1 rfl rfl h0 dX0_withSecond_16 ?_
  refine lv_lstore_n (lv' := [(3, .long ((xN S) p0.toNatClampNeg)), (0, .ref (a 0)), (1, .int p0), (2, .int p1)]) hx hb dX0_withSecond_17 rfl hl (Nat.le_of_ble_eq_true rfl) rfl (fun ls hl => ?_)
  refine lv_aload_n hx hb dX0_withSecond_18 rfl (lv_at hl 1 rfl) ?_
  refine lv_iload_n hx hb dX0_withSecond_19 rfl (lv_at hl 2 rfl) ?_
  refine lv_iload_n hx hb dX0_withSecond_20 rfl (lv_at hl 2 rfl) ?_
  refine lv_lload_n hx hb dX0_withSecond_21 rfl (lv_at hl 0 rfl) ?_
  refine lv_iload_n hx hb dX0_withSecond_22 rfl (lv_at hl 3 rfl) ?_
  refine lv_lload_n hx hb dX0_withSecond_23 rfl (lv_at hl 0 rfl) ?_
  refine rcSi (as := [.long ((xN S) p0.toNatClampNeg)]) (rest := [.int p1, .long ((xN S) p0.toNatClampNeg), .int p0, .int p0, .ref (a 0)]) C (c_X0_secondOf l G ((xN S) p0.toNatClampNeg)) F_X0_secondOf rfl bw157 bw158 (hE.S hS hAB) vpn hl.1 dX0_withSecond_24 ⟨Nat.le_of_ble_eq_true rfl, Nat.le_of_ble_eq_true rfl⟩ rfl (Nat.le_of_ble_eq_true rfl) ⟨Nat.le_of_ble_eq_true rfl, Nat.le_of_ble_eq_true rfl⟩ ?_
  refine lv_isub hx hb dX0_withSecond_27 ?_
  refine lv_i2l (v := ((p1 - (fX0_secondOf ((xN S) p0.toNatClampNeg))).toInt64)) hx hb dX0_withSecond_28 (by first | rfl | decide) ?_
  refine lv_ldc2 (v := (1000000000 : Int64)) hx hb hown (hw _ bw160) dX0_withSecond_29 ?_
  refine lv_lmul hx hb dX0_withSecond_32 ?_
  refine lv_ladd hx hb dX0_withSecond_33 ?_
  refine wcVi (as := [.int p0, .int p0, .long (((xN S) p0.toNatClampNeg) + (((p1 - (fX0_secondOf ((xN S) p0.toNatClampNeg))).toInt64) * (1000000000 : Int64)))]) (rest := []) (cl := RX0) C (c_X0_becomeAs l G a S p0 p0 (((xN S) p0.toNatClampNeg) + (((p1 - (fX0_secondOf ((xN S) p0.toNatClampNeg))).toInt64) * (1000000000 : Int64))) h0 h0) F_X0_becomeAs rfl bw446 bw448 bw22 (hE.S hS hAB) hP hD hS hA hAB (va_recv hE.K hP (ci := 2) (q0 := 0) rfl rfl) hl.1 dX0_withSecond_34 ⟨Nat.le_of_ble_eq_true rfl, Nat.le_of_ble_eq_true rfl⟩ rfl (Nat.le_of_ble_eq_true rfl) ⟨Nat.le_of_ble_eq_true rfl, Nat.le_of_ble_eq_true rfl⟩ (fun H locs hP hD hS => ?_)
  exact we_i (wf := wX G a) hx hb hr hk hP hD hS (Nat.le_of_ble_eq_true rfl) (Nat.le_of_ble_eq_true rfl) dX0_withSecond_37 rfl

set_option maxRecDepth 100000 in
set_option maxHeartbeats 4000000 in
theorem c_X0_withNano (l : Launch) (G : GT) (a : Nat → Nat) (S : SX) (p0 : Int32) (p1 : Int32) (h0 : vp_in p0 6) (r1 : ¬ p1 < (0 : Int32)) (q1 : p1 ≤ (999999999 : Int32)) : WR l G yX0_withNano cX0_withNano 5 (some .int) 8 0 0 [.ref (a 0), .int p0, .int p1] (wX G a S) (wX G a (gX0_withNano S p0 p1).2) (some (.int (gX0_withNano S p0 p1).1)) := by
  refine WR.ofW (own := RX0) rfl (by decide +kernel) (Nat.le_of_ble_eq_true rfl) ?_
  intro p e s m below meth c A C hr hk hnm hE hP hD hA hAB hS ls hl
  have hx := C.1
  have hb := C.2.1
  have hown := C.2.2.2.1
  have hw := C.2.2.2.2
  have hl : lv_has ls 5 [(0, .ref (a 0)), (1, .int p0), (2, .int p1)] := hl
  refine lv_iload_n hx hb dX0_withNano_0 rfl (lv_at hl 1 rfl) ?_
  refine rcSv (as := [.int p0]) (rest := []) C (c_X0_checkMoment l G p0 h0) F_X0_checkMoment rfl bw387 bw388 (hE.S hS hAB) vpn hl.1 dX0_withNano_1 ⟨Nat.le_of_ble_eq_true rfl, Nat.le_of_ble_eq_true rfl⟩ rfl (Nat.le_of_ble_eq_true rfl) ⟨Nat.le_of_ble_eq_true rfl, Nat.le_of_ble_eq_true rfl⟩ ?_
  refine lv_iload_n hx hb dX0_withNano_4 rfl (lv_at hl 2 rfl) ?_
  refine lv_iconst (v := (0 : Int32)) hx hb dX0_withNano_5 (by decide) ?_
  refine lv_ldc (v := (999999999 : Int32)) hx hb hown (hw _ bw378) dX0_withNano_6 ?_
  refine rcSv (as := [.int p1, .int (0 : Int32), .int (999999999 : Int32)]) (rest := []) C (c_X0_checkRange l G p1 (0 : Int32) (999999999 : Int32) r1 q1) F_X0_checkRange rfl bw308 bw309 (hE.S hS hAB) vpn hl.1 dX0_withNano_8 ⟨Nat.le_of_ble_eq_true rfl, Nat.le_of_ble_eq_true rfl⟩ rfl (Nat.le_of_ble_eq_true rfl) ⟨Nat.le_of_ble_eq_true rfl, Nat.le_of_ble_eq_true rfl⟩ ?_
  refine lv_aload_n hx hb dX0_withNano_11 rfl (lv_at hl 0 rfl) ?_
  refine va_get (D := gD G) (cl := vwCl) (tys := gT G) (ci := 2) (v := .ref (a 5)) (C := RX0) (T := TX0) (N := 12) hx hb hw inB_X0 hown hE.K hP 0 rfl rfl 4 (by decide) (hw _ bw98) (fun _ h9 => h9) rfl dX0_withNano_12 ?_
  refine lv_iload_n hx hb dX0_withNano_15 rfl (lv_at hl 1 rfl) ?_
  refine va_lald (tys := gT G) hx hb hE.K hP 5 1 rfl rfl h0 dX0_withNano_16 ?_
  refine lv_lstore_n (lv' := [(3, .long ((xN S) p0.toNatClampNeg)), (0, .ref (a 0)), (1, .int p0), (2, .int p1)]) hx hb dX0_withNano_17 rfl hl (Nat.le_of_ble_eq_true rfl) rfl (fun ls hl => ?_)
  refine lv_aload_n hx hb dX0_withNano_18 rfl (lv_at hl 1 rfl) ?_
  refine lv_iload_n hx hb dX0_withNano_19 rfl (lv_at hl 2 rfl) ?_
  refine lv_iload_n hx hb dX0_withNano_20 rfl (lv_at hl 2 rfl) ?_
  refine lv_lload_n hx hb dX0_withNano_21 rfl (lv_at hl 0 rfl) ?_
  refine lv_iload_n hx hb dX0_withNano_22 rfl (lv_at hl 3 rfl) ?_
  refine lv_i2l (v := (p1.toInt64)) hx hb dX0_withNano_23 (by first | rfl | decide) ?_
  refine lv_ladd hx hb dX0_withNano_24 ?_
  refine lv_lload_n hx hb dX0_withNano_25 rfl (lv_at hl 0 rfl) ?_
  refine rcSi (as := [.long ((xN S) p0.toNatClampNeg)]) (rest := [.long (((xN S) p0.toNatClampNeg) + (p1.toInt64)), .int p0, .int p0, .ref (a 0)]) C (c_X0_nanoOfSecond l G ((xN S) p0.toNatClampNeg)) F_X0_nanoOfSecond rfl bw161 bw162 (hE.S hS hAB) vpn hl.1 dX0_withNano_26 ⟨Nat.le_of_ble_eq_true rfl, Nat.le_of_ble_eq_true rfl⟩ rfl (Nat.le_of_ble_eq_true rfl) ⟨Nat.le_of_ble_eq_true rfl, Nat.le_of_ble_eq_true rfl⟩ ?_
  refine lv_i2l (v := ((fX0_nanoOfSecond ((xN S) p0.toNatClampNeg)).toInt64)) hx hb dX0_withNano_29 (by first | rfl | decide) ?_
  refine lv_lsub hx hb dX0_withNano_30 ?_
  refine wcVi (as := [.int p0, .int p0, .long ((((xN S) p0.toNatClampNeg) + (p1.toInt64)) - ((fX0_nanoOfSecond ((xN S) p0.toNatClampNeg)).toInt64))]) (rest := []) (cl := RX0) C (c_X0_becomeAs l G a S p0 p0 ((((xN S) p0.toNatClampNeg) + (p1.toInt64)) - ((fX0_nanoOfSecond ((xN S) p0.toNatClampNeg)).toInt64)) h0 h0) F_X0_becomeAs rfl bw446 bw448 bw22 (hE.S hS hAB) hP hD hS hA hAB (va_recv hE.K hP (ci := 2) (q0 := 0) rfl rfl) hl.1 dX0_withNano_31 ⟨Nat.le_of_ble_eq_true rfl, Nat.le_of_ble_eq_true rfl⟩ rfl (Nat.le_of_ble_eq_true rfl) ⟨Nat.le_of_ble_eq_true rfl, Nat.le_of_ble_eq_true rfl⟩ (fun H locs hP hD hS => ?_)
  exact we_i (wf := wX G a) hx hb hr hk hP hD hS (Nat.le_of_ble_eq_true rfl) (Nat.le_of_ble_eq_true rfl) dX0_withNano_34 rfl

set_option maxRecDepth 100000 in
set_option maxHeartbeats 4000000 in
theorem c_X0_truncate (l : Launch) (G : GT) (a : Nat → Nat) (S : SX) (p0 : Int32) (p1 : Int32) (h0 : vp_in p0 6) (r1 : ¬ p1 < (0 : Int32)) (q1 : p1 ≤ (7 : Int32)) : WR l G yX0_truncate cX0_truncate 3 (some .int) 8 0 0 [.ref (a 0), .int p0, .int p1] (wX G a S) (wX G a (gX0_truncate S p0 p1).2) (some (.int (gX0_truncate S p0 p1).1)) := by
  refine WR.ofW (own := RX0) rfl (by decide +kernel) (Nat.le_of_ble_eq_true rfl) ?_
  intro p e s m below meth c A C hr hk hnm hE hP hD hA hAB hS ls hl
  have hx := C.1
  have hb := C.2.1
  have hown := C.2.2.2.1
  have hw := C.2.2.2.2
  have hl : lv_has ls 3 [(0, .ref (a 0)), (1, .int p0), (2, .int p1)] := hl
  refine lv_iload_n hx hb dX0_truncate_0 rfl (lv_at hl 1 rfl) ?_
  refine rcSv (as := [.int p0]) (rest := []) C (c_X0_checkMoment l G p0 h0) F_X0_checkMoment rfl bw387 bw388 (hE.S hS hAB) vpn hl.1 dX0_truncate_1 ⟨Nat.le_of_ble_eq_true rfl, Nat.le_of_ble_eq_true rfl⟩ rfl (Nat.le_of_ble_eq_true rfl) ⟨Nat.le_of_ble_eq_true rfl, Nat.le_of_ble_eq_true rfl⟩ ?_
  refine lv_iload_n hx hb dX0_truncate_4 rfl (lv_at hl 2 rfl) ?_
  refine lv_iconst (v := (0 : Int32)) hx hb dX0_truncate_5 (by decide) ?_
  refine lv_bipush (v := (7 : Int32)) hx hb dX0_truncate_6 (by decide) ?_
  refine rcSv (as := [.int p1, .int (0 : Int32), .int (7 : Int32)]) (rest := []) C (c_X0_checkRange l G p1 (0 : Int32) (7 : Int32) r1 q1) F_X0_checkRange rfl bw308 bw309 (hE.S hS hAB) vpn hl.1 dX0_truncate_8 ⟨Nat.le_of_ble_eq_true rfl, Nat.le_of_ble_eq_true rfl⟩ rfl (Nat.le_of_ble_eq_true rfl) ⟨Nat.le_of_ble_eq_true rfl, Nat.le_of_ble_eq_true rfl⟩ ?_
  refine lv_aload_n hx hb dX0_truncate_11 rfl (lv_at hl 0 rfl) ?_
  refine lv_iload_n hx hb dX0_truncate_12 rfl (lv_at hl 1 rfl) ?_
  refine lv_iload_n hx hb dX0_truncate_13 rfl (lv_at hl 1 rfl) ?_
  refine lv_aload_n hx hb dX0_truncate_14 rfl (lv_at hl 0 rfl) ?_
  refine va_get (D := gD G) (cl := vwCl) (tys := gT G) (ci := 2) (v := .ref (a 5)) (C := RX0) (T := TX0) (N := 12) hx hb hw inB_X0 hown hE.K hP 0 rfl rfl 4 (by decide) (hw _ bw98) (fun _ h9 => h9) rfl dX0_truncate_15 ?_
  refine lv_iload_n hx hb dX0_truncate_18 rfl (lv_at hl 1 rfl) ?_
  refine va_lald (tys := gT G) hx hb hE.K hP 5 1 rfl rfl h0 dX0_truncate_19 ?_
  refine lv_iload_n hx hb dX0_truncate_20 rfl (lv_at hl 2 rfl) ?_
  refine rcSl (as := [.long ((xN S) p0.toNatClampNeg), .int p1]) (rest := [.int p0, .int p0, .ref (a 0)]) C (c_X0_cutNano l G ((xN S) p0.toNatClampNeg) p1) F_X0_cutNano rfl bw220 bw221 (hE.S hS hAB) vpn hl.1 dX0_truncate_21 ⟨Nat.le_of_ble_eq_true rfl, Nat.le_of_ble_eq_true rfl⟩ rfl (Nat.le_of_ble_eq_true rfl) ⟨Nat.le_of_ble_eq_true rfl, Nat.le_of_ble_eq_true rfl⟩ ?_
  refine wcVi (as := [.int p0, .int p0, .long (fX0_cutNano ((xN S) p0.toNatClampNeg) p1)]) (rest := []) (cl := RX0) C (c_X0_becomeAs l G a S p0 p0 (fX0_cutNano ((xN S) p0.toNatClampNeg) p1) h0 h0) F_X0_becomeAs rfl bw446 bw448 bw22 (hE.S hS hAB) hP hD hS hA hAB (va_recv hE.K hP (ci := 2) (q0 := 0) rfl rfl) hl.1 dX0_truncate_24 ⟨Nat.le_of_ble_eq_true rfl, Nat.le_of_ble_eq_true rfl⟩ rfl (Nat.le_of_ble_eq_true rfl) ⟨Nat.le_of_ble_eq_true rfl, Nat.le_of_ble_eq_true rfl⟩ (fun H locs hP hD hS => ?_)
  exact we_i (wf := wX G a) hx hb hr hk hP hD hS (Nat.le_of_ble_eq_true rfl) (Nat.le_of_ble_eq_true rfl) dX0_truncate_27 rfl

set_option maxRecDepth 100000 in
set_option maxHeartbeats 4000000 in
theorem c_X0_plusYears (l : Launch) (G : GT) (a : Nat → Nat) (S : SX) (p0 : Int32) (p1 : Int32) (h0 : vp_in p0 6) (r1 : ¬ p1 < (-100000000 : Int32)) (q1 : p1 ≤ (100000000 : Int32)) : WR l G yX0_plusYears cX0_plusYears 3 (some .int) 8 0 0 [.ref (a 0), .int p0, .int p1] (wX G a S) (wX G a (gX0_plusYears S p0 p1).2) (some (.int (gX0_plusYears S p0 p1).1)) := by
  refine WR.ofW (own := RX0) rfl (by decide +kernel) (Nat.le_of_ble_eq_true rfl) ?_
  intro p e s m below meth c A C hr hk hnm hE hP hD hA hAB hS ls hl
  have hx := C.1
  have hb := C.2.1
  have hown := C.2.2.2.1
  have hw := C.2.2.2.2
  have hl : lv_has ls 3 [(0, .ref (a 0)), (1, .int p0), (2, .int p1)] := hl
  refine lv_iload_n hx hb dX0_plusYears_0 rfl (lv_at hl 1 rfl) ?_
  refine rcSv (as := [.int p0]) (rest := []) C (c_X0_checkMoment l G p0 h0) F_X0_checkMoment rfl bw387 bw388 (hE.S hS hAB) vpn hl.1 dX0_plusYears_1 ⟨Nat.le_of_ble_eq_true rfl, Nat.le_of_ble_eq_true rfl⟩ rfl (Nat.le_of_ble_eq_true rfl) ⟨Nat.le_of_ble_eq_true rfl, Nat.le_of_ble_eq_true rfl⟩ ?_
  refine lv_iload_n hx hb dX0_plusYears_4 rfl (lv_at hl 2 rfl) ?_
  refine lv_ldc (v := (-100000000 : Int32)) hx hb hown (hw _ bw541) dX0_plusYears_5 ?_
  refine lv_ldc (v := (100000000 : Int32)) hx hb hown (hw _ bw542) dX0_plusYears_7 ?_
  refine rcSv (as := [.int p1, .int (-100000000 : Int32), .int (100000000 : Int32)]) (rest := []) C (c_X0_checkRange l G p1 (-100000000 : Int32) (100000000 : Int32) r1 q1) F_X0_checkRange rfl bw308 bw309 (hE.S hS hAB) vpn hl.1 dX0_plusYears_9 ⟨Nat.le_of_ble_eq_true rfl, Nat.le_of_ble_eq_true rfl⟩ rfl (Nat.le_of_ble_eq_true rfl) ⟨Nat.le_of_ble_eq_true rfl, Nat.le_of_ble_eq_true rfl⟩ ?_
  refine lv_aload_n hx hb dX0_plusYears_12 rfl (lv_at hl 0 rfl) ?_
  refine lv_iload_n hx hb dX0_plusYears_13 rfl (lv_at hl 1 rfl) ?_
  refine lv_ldc2 (v := (12 : Int64)) hx hb hown (hw _ bw543) dX0_plusYears_14 ?_
  refine lv_iload_n hx hb dX0_plusYears_17 rfl (lv_at hl 2 rfl) ?_
  refine lv_i2l (v := (p1.toInt64)) hx hb dX0_plusYears_18 (by first | rfl | decide) ?_
  refine lv_lmul hx hb dX0_plusYears_19 ?_
  refine wcVi (as := [.int p0, .long ((12 : Int64) * (p1.toInt64))]) (rest := []) (cl := RX0) C (c_X0_goMonths l G a S p0 ((12 : Int64) * (p1.toInt64)) h0) F_X0_goMonths rfl bw544 bw546 bw24 (hE.S hS hAB) hP hD hS hA hAB (va_recv hE.K hP (ci := 2) (q0 := 0) rfl rfl) hl.1 dX0_plusYears_20 ⟨Nat.le_of_ble_eq_true rfl, Nat.le_of_ble_eq_true rfl⟩ rfl (Nat.le_of_ble_eq_true rfl) ⟨Nat.le_of_ble_eq_true rfl, Nat.le_of_ble_eq_true rfl⟩ (fun H locs hP hD hS => ?_)
  exact we_i (wf := wX G a) hx hb hr hk hP hD hS (Nat.le_of_ble_eq_true rfl) (Nat.le_of_ble_eq_true rfl) dX0_plusYears_23 rfl

set_option maxRecDepth 100000 in
set_option maxHeartbeats 4000000 in
theorem c_X0_minusYears (l : Launch) (G : GT) (a : Nat → Nat) (S : SX) (p0 : Int32) (p1 : Int32) (h0 : vp_in p0 6) (r1 : ¬ p1 < (-100000000 : Int32)) (q1 : p1 ≤ (100000000 : Int32)) : WR l G yX0_minusYears cX0_minusYears 3 (some .int) 8 0 0 [.ref (a 0), .int p0, .int p1] (wX G a S) (wX G a (gX0_minusYears S p0 p1).2) (some (.int (gX0_minusYears S p0 p1).1)) := by
  refine WR.ofW (own := RX0) rfl (by decide +kernel) (Nat.le_of_ble_eq_true rfl) ?_
  intro p e s m below meth c A C hr hk hnm hE hP hD hA hAB hS ls hl
  have hx := C.1
  have hb := C.2.1
  have hown := C.2.2.2.1
  have hw := C.2.2.2.2
  have hl : lv_has ls 3 [(0, .ref (a 0)), (1, .int p0), (2, .int p1)] := hl
  refine lv_iload_n hx hb dX0_minusYears_0 rfl (lv_at hl 1 rfl) ?_
  refine rcSv (as := [.int p0]) (rest := []) C (c_X0_checkMoment l G p0 h0) F_X0_checkMoment rfl bw387 bw388 (hE.S hS hAB) vpn hl.1 dX0_minusYears_1 ⟨Nat.le_of_ble_eq_true rfl, Nat.le_of_ble_eq_true rfl⟩ rfl (Nat.le_of_ble_eq_true rfl) ⟨Nat.le_of_ble_eq_true rfl, Nat.le_of_ble_eq_true rfl⟩ ?_
  refine lv_iload_n hx hb dX0_minusYears_4 rfl (lv_at hl 2 rfl) ?_
  refine lv_ldc (v := (-100000000 : Int32)) hx hb hown (hw _ bw541) dX0_minusYears_5 ?_
  refine lv_ldc (v := (100000000 : Int32)) hx hb hown (hw _ bw542) dX0_minusYears_7 ?_
  refine rcSv (as := [.int p1, .int (-100000000 : Int32), .int (100000000 : Int32)]) (rest := []) C (c_X0_checkRange l G p1 (-100000000 : Int32) (100000000 : Int32) r1 q1) F_X0_checkRange rfl bw308 bw309 (hE.S hS hAB) vpn hl.1 dX0_minusYears_9 ⟨Nat.le_of_ble_eq_true rfl, Nat.le_of_ble_eq_true rfl⟩ rfl (Nat.le_of_ble_eq_true rfl) ⟨Nat.le_of_ble_eq_true rfl, Nat.le_of_ble_eq_true rfl⟩ ?_
  refine lv_aload_n hx hb dX0_minusYears_12 rfl (lv_at hl 0 rfl) ?_
  refine lv_iload_n hx hb dX0_minusYears_13 rfl (lv_at hl 1 rfl) ?_
  refine lv_ldc2 (v := (-12 : Int64)) hx hb hown (hw _ bw611) dX0_minusYears_14 ?_
  refine lv_iload_n hx hb dX0_minusYears_17 rfl (lv_at hl 2 rfl) ?_
  refine lv_i2l (v := (p1.toInt64)) hx hb dX0_minusYears_18 (by first | rfl | decide) ?_
  refine lv_lmul hx hb dX0_minusYears_19 ?_
  refine wcVi (as := [.int p0, .long ((-12 : Int64) * (p1.toInt64))]) (rest := []) (cl := RX0) C (c_X0_goMonths l G a S p0 ((-12 : Int64) * (p1.toInt64)) h0) F_X0_goMonths rfl bw544 bw546 bw24 (hE.S hS hAB) hP hD hS hA hAB (va_recv hE.K hP (ci := 2) (q0 := 0) rfl rfl) hl.1 dX0_minusYears_20 ⟨Nat.le_of_ble_eq_true rfl, Nat.le_of_ble_eq_true rfl⟩ rfl (Nat.le_of_ble_eq_true rfl) ⟨Nat.le_of_ble_eq_true rfl, Nat.le_of_ble_eq_true rfl⟩ (fun H locs hP hD hS => ?_)
  exact we_i (wf := wX G a) hx hb hr hk hP hD hS (Nat.le_of_ble_eq_true rfl) (Nat.le_of_ble_eq_true rfl) dX0_minusYears_23 rfl

set_option maxRecDepth 100000 in
set_option maxHeartbeats 4000000 in
theorem c_X0_plusMonths (l : Launch) (G : GT) (a : Nat → Nat) (S : SX) (p0 : Int32) (p1 : Int32) (h0 : vp_in p0 6) : WR l G yX0_plusMonths cX0_plusMonths 3 (some .int) 8 0 0 [.ref (a 0), .int p0, .int p1] (wX G a S) (wX G a (gX0_plusMonths S p0 p1).2) (some (.int (gX0_plusMonths S p0 p1).1)) := by
  refine WR.ofW (own := RX0) rfl (by decide +kernel) (Nat.le_of_ble_eq_true rfl) ?_
  intro p e s m below meth c A C hr hk hnm hE hP hD hA hAB hS ls hl
  have hx := C.1
  have hb := C.2.1
  have hown := C.2.2.2.1
  have hw := C.2.2.2.2
  have hl : lv_has ls 3 [(0, .ref (a 0)), (1, .int p0), (2, .int p1)] := hl
  refine lv_iload_n hx hb dX0_plusMonths_0 rfl (lv_at hl 1 rfl) ?_
  refine rcSv (as := [.int p0]) (rest := []) C (c_X0_checkMoment l G p0 h0) F_X0_checkMoment rfl bw387 bw388 (hE.S hS hAB) vpn hl.1 dX0_plusMonths_1 ⟨Nat.le_of_ble_eq_true rfl, Nat.le_of_ble_eq_true rfl⟩ rfl (Nat.le_of_ble_eq_true rfl) ⟨Nat.le_of_ble_eq_true rfl, Nat.le_of_ble_eq_true rfl⟩ ?_
  refine lv_aload_n hx hb dX0_plusMonths_4 rfl (lv_at hl 0 rfl) ?_
  refine lv_iload_n hx hb dX0_plusMonths_5 rfl (lv_at hl 1 rfl) ?_
  refine lv_iload_n hx hb dX0_plusMonths_6 rfl (lv_at hl 2 rfl) ?_
  refine lv_i2l (v := (p1.toInt64)) hx hb dX0_plusMonths_7 (by first | rfl | decide) ?_
  refine wcVi (as := [.int p0, .long (p1.toInt64)]) (rest := []) (cl := RX0) C (c_X0_goMonths l G a S p0 (p1.toInt64) h0) F_X0_goMonths rfl bw544 bw546 bw24 (hE.S hS hAB) hP hD hS hA hAB (va_recv hE.K hP (ci := 2) (q0 := 0) rfl rfl) hl.1 dX0_plusMonths_8 ⟨Nat.le_of_ble_eq_true rfl, Nat.le_of_ble_eq_true rfl⟩ rfl (Nat.le_of_ble_eq_true rfl) ⟨Nat.le_of_ble_eq_true rfl, Nat.le_of_ble_eq_true rfl⟩ (fun H locs hP hD hS => ?_)
  exact we_i (wf := wX G a) hx hb hr hk hP hD hS (Nat.le_of_ble_eq_true rfl) (Nat.le_of_ble_eq_true rfl) dX0_plusMonths_11 rfl

