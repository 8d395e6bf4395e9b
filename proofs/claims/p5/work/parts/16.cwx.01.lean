set_option maxRecDepth 100000 in
set_option maxHeartbeats 4000000 in
theorem c_X0_becomeMonth (l : Launch) (G : GT) (a : Nat → Nat) (S : SX) (p0 : Int32) (p1 : Int32) (p2 : Int32) (h0 : vp_in p0 6) : WR l G yX0_becomeMonth cX0_becomeMonth 5 (some .int) 5 0 0 [.ref (a 0), .int p0, .int p1, .int p2] (wX G a S) (wX G a (gX0_becomeMonth S p0 p1 p2).2) (some (.int (gX0_becomeMonth S p0 p1 p2).1)) := by
  refine WR.ofW (own := RX0) rfl (by decide +kernel) (Nat.le_of_ble_eq_true rfl) ?_
  intro p e s m below meth c A C hr hk hnm hE hP hD hA hAB hS ls hl
  have hx := C.1
  have hb := C.2.1
  have hown := C.2.2.2.1
  have hw := C.2.2.2.2
  have hl : lv_has ls 5 [(0, .ref (a 0)), (1, .int p0), (2, .int p1), (3, .int p2)] := hl
  refine lv_aload_n hx hb dX0_becomeMonth_0 rfl (lv_at hl 0 rfl) ?_
  refine va_get (D := gD G) (cl := vwCl) (tys := gT G) (ci := 2) (v := .ref (a 3)) (C := RX0) (T := TX0) (N := 12) hx hb hw inB_X0 hown hE.K hP 0 rfl rfl 2 (by decide) (hw _ bw96) (fun _ h9 => h9) rfl dX0_becomeMonth_1 ?_
  refine lv_iload_n hx hb dX0_becomeMonth_4 rfl (lv_at hl 1 rfl) ?_
  refine va_iald (tys := gT G) hx hb hE.K hP 3 0 rfl rfl h0 dX0_becomeMonth_5 ?_
  refine lv_iload_n hx hb dX0_becomeMonth_6 rfl (lv_at hl 2 rfl) ?_
  refine lv_iload_n hx hb dX0_becomeMonth_7 rfl (lv_at hl 3 rfl) ?_
  refine rcSi (as := [.int p1, .int p2]) (rest := [.int ((xd S) p0.toNatClampNeg)]) C (c_X0_monthLength l G p1 p2) F_X0_monthLength rfl bw210 bw211 (hE.S hS hAB) vpn hl.1 dX0_becomeMonth_8 ⟨Nat.le_of_ble_eq_true rfl, Nat.le_of_ble_eq_true rfl⟩ rfl (Nat.le_of_ble_eq_true rfl) ⟨Nat.le_of_ble_eq_true rfl, Nat.le_of_ble_eq_true rfl⟩ ?_
  refine rcSi (as := [.int ((xd S) p0.toNatClampNeg), .int (fX0_monthLength p1 p2)]) (rest := []) C (c_J9_min_7cf53 l G ((xd S) p0.toNatClampNeg) (fX0_monthLength p1 p2)) F_J9_min_7cf53 rfl bw213 bw214 (hE.S hS hAB) vpn hl.1 dX0_becomeMonth_11 ⟨Nat.le_of_ble_eq_true rfl, Nat.le_of_ble_eq_true rfl⟩ rfl (Nat.le_of_ble_eq_true rfl) ⟨Nat.le_of_ble_eq_true rfl, Nat.le_of_ble_eq_true rfl⟩ ?_
  refine lv_istore (lv' := [(4, .int (fJ9_min_7cf53 ((xd S) p0.toNatClampNeg) (fX0_monthLength p1 p2))), (0, .ref (a 0)), (1, .int p0), (2, .int p1), (3, .int p2)]) hx hb dX0_becomeMonth_14 hl (Nat.le_of_ble_eq_true rfl) rfl (fun ls hl => ?_)
  refine lv_aload_n hx hb dX0_becomeMonth_16 rfl (lv_at hl 1 rfl) ?_
  refine lv_iload_n hx hb dX0_becomeMonth_17 rfl (lv_at hl 2 rfl) ?_
  refine lv_iload_n hx hb dX0_becomeMonth_18 rfl (lv_at hl 3 rfl) ?_
  refine lv_iload_n hx hb dX0_becomeMonth_19 rfl (lv_at hl 4 rfl) ?_
  refine lv_iload hx hb dX0_becomeMonth_20 (lv_at hl 0 rfl) ?_
  refine lv_aload_n hx hb dX0_becomeMonth_22 rfl (lv_at hl 1 rfl) ?_
  refine va_get (D := gD G) (cl := vwCl) (tys := gT G) (ci := 2) (v := .ref (a 5)) (C := RX0) (T := TX0) (N := 12) hx hb hw inB_X0 hown hE.K hP 0 rfl rfl 4 (by decide) (hw _ bw98) (fun _ h9 => h9) rfl dX0_becomeMonth_23 ?_
  refine lv_iload_n hx hb dX0_becomeMonth_26 rfl (lv_at hl 2 rfl) ?_
  refine va_lald (tys := gT G) hx hb hE.K hP 5 1 rfl rfl h0 dX0_becomeMonth_27 ?_
  refine wcVi (as := [.int p0, .int p1, .int p2, .int (fJ9_min_7cf53 ((xd S) p0.toNatClampNeg) (fX0_monthLength p1 p2)), .long ((xN S) p0.toNatClampNeg)]) (rest := []) (cl := RX0) C (c_X0_becomeDate l G a S p0 p1 p2 (fJ9_min_7cf53 ((xd S) p0.toNatClampNeg) (fX0_monthLength p1 p2)) ((xN S) p0.toNatClampNeg) h0) F_X0_becomeDate rfl bw410 bw412 bw19 (hE.S hS hAB) hP hD hS hA hAB (va_recv hE.K hP (ci := 2) (q0 := 0) rfl rfl) hl.1 dX0_becomeMonth_28 ⟨Nat.le_of_ble_eq_true rfl, Nat.le_of_ble_eq_true rfl⟩ rfl (Nat.le_of_ble_eq_true rfl) ⟨Nat.le_of_ble_eq_true rfl, Nat.le_of_ble_eq_true rfl⟩ (fun H locs hP hD hS => ?_)
  exact we_i (wf := wX G a) hx hb hr hk hP hD hS (Nat.le_of_ble_eq_true rfl) (Nat.le_of_ble_eq_true rfl) dX0_becomeMonth_31 rfl

set_option maxRecDepth 100000 in
set_option maxHeartbeats 4000000 in
theorem c_X0_becomeAs (l : Launch) (G : GT) (a : Nat → Nat) (S : SX) (p0 : Int32) (p1 : Int32) (p2 : Int64) (h0 : vp_in p0 6) (h1 : vp_in p1 6) : WR l G yX0_becomeAs cX0_becomeAs 5 (some .int) 5 0 0 [.ref (a 0), .int p0, .int p1, .long p2] (wX G a S) (wX G a (gX0_becomeAs S p0 p1 p2).2) (some (.int (gX0_becomeAs S p0 p1 p2).1)) := by
  refine WR.ofW (own := RX0) rfl (by decide +kernel) (Nat.le_of_ble_eq_true rfl) ?_
  intro p e s m below meth c A C hr hk hnm hE hP hD hA hAB hS ls hl
  have hx := C.1
  have hb := C.2.1
  have hown := C.2.2.2.1
  have hw := C.2.2.2.2
  have hl : lv_has ls 5 [(0, .ref (a 0)), (1, .int p0), (2, .int p1), (3, .long p2)] := hl
  refine lv_aload_n hx hb dX0_becomeAs_0 rfl (lv_at hl 0 rfl) ?_
  refine lv_iload_n hx hb dX0_becomeAs_1 rfl (lv_at hl 1 rfl) ?_
  refine lv_aload_n hx hb dX0_becomeAs_2 rfl (lv_at hl 0 rfl) ?_
  refine va_get (D := gD G) (cl := vwCl) (tys := gT G) (ci := 2) (v := .ref (a 1)) (C := RX0) (T := TX0) (N := 12) hx hb hw inB_X0 hown hE.K hP 0 rfl rfl 0 (by decide) (hw _ bw94) (fun _ h9 => h9) rfl dX0_becomeAs_3 ?_
  refine lv_iload_n hx hb dX0_becomeAs_6 rfl (lv_at hl 2 rfl) ?_
  refine va_iald (tys := gT G) hx hb hE.K hP 1 0 rfl rfl h1 dX0_becomeAs_7 ?_
  refine lv_aload_n hx hb dX0_becomeAs_8 rfl (lv_at hl 0 rfl) ?_
  refine va_get (D := gD G) (cl := vwCl) (tys := gT G) (ci := 2) (v := .ref (a 2)) (C := RX0) (T := TX0) (N := 12) hx hb hw inB_X0 hown hE.K hP 0 rfl rfl 1 (by decide) (hw _ bw95) (fun _ h9 => h9) rfl dX0_becomeAs_9 ?_
  refine lv_iload_n hx hb dX0_becomeAs_12 rfl (lv_at hl 2 rfl) ?_
  refine va_iald (tys := gT G) hx hb hE.K hP 2 0 rfl rfl h1 dX0_becomeAs_13 ?_
  refine lv_aload_n hx hb dX0_becomeAs_14 rfl (lv_at hl 0 rfl) ?_
  refine va_get (D := gD G) (cl := vwCl) (tys := gT G) (ci := 2) (v := .ref (a 3)) (C := RX0) (T := TX0) (N := 12) hx hb hw inB_X0 hown hE.K hP 0 rfl rfl 2 (by decide) (hw _ bw96) (fun _ h9 => h9) rfl dX0_becomeAs_15 ?_
  refine lv_iload_n hx hb dX0_becomeAs_18 rfl (lv_at hl 2 rfl) ?_
  refine va_iald (tys := gT G) hx hb hE.K hP 3 0 rfl rfl h1 dX0_becomeAs_19 ?_
  refine lv_lload_n hx hb dX0_becomeAs_20 rfl (lv_at hl 3 rfl) ?_
  refine wcVi (as := [.int p0, .int ((xy S) p1.toNatClampNeg), .int ((xm S) p1.toNatClampNeg), .int ((xd S) p1.toNatClampNeg), .long p2]) (rest := []) (cl := RX0) C (c_X0_becomeDate l G a S p0 ((xy S) p1.toNatClampNeg) ((xm S) p1.toNatClampNeg) ((xd S) p1.toNatClampNeg) p2 h0) F_X0_becomeDate rfl bw410 bw412 bw19 (hE.S hS hAB) hP hD hS hA hAB (va_recv hE.K hP (ci := 2) (q0 := 0) rfl rfl) hl.1 dX0_becomeAs_21 ⟨Nat.le_of_ble_eq_true rfl, Nat.le_of_ble_eq_true rfl⟩ rfl (Nat.le_of_ble_eq_true rfl) ⟨Nat.le_of_ble_eq_true rfl, Nat.le_of_ble_eq_true rfl⟩ (fun H locs hP hD hS => ?_)
  exact we_i (wf := wX G a) hx hb hr hk hP hD hS (Nat.le_of_ble_eq_true rfl) (Nat.le_of_ble_eq_true rfl) dX0_becomeAs_24 rfl

set_option maxRecDepth 100000 in
set_option maxHeartbeats 4000000 in
theorem c_X0_goMonths (l : Launch) (G : GT) (a : Nat → Nat) (S : SX) (p0 : Int32) (p1 : Int64) (h0 : vp_in p0 6) : WR l G yX0_goMonths cX0_goMonths 8 (some .int) 6 0 0 [.ref (a 0), .int p0, .long p1] (wX G a S) (wX G a (gX0_goMonths S p0 p1).2) (some (.int (gX0_goMonths S p0 p1).1)) := by
  refine WR.ofW (own := RX0) rfl (by decide +kernel) (Nat.le_of_ble_eq_true rfl) ?_
  intro p e s m below meth c A C hr hk hnm hE hP hD hA hAB hS ls hl
  have hx := C.1
  have hb := C.2.1
  have hown := C.2.2.2.1
  have hw := C.2.2.2.2
  have hl : lv_has ls 8 [(0, .ref (a 0)), (1, .int p0), (2, .long p1)] := hl
  refine lv_aload_n hx hb dX0_goMonths_0 rfl (lv_at hl 0 rfl) ?_
  refine lv_iload_n hx hb dX0_goMonths_1 rfl (lv_at hl 1 rfl) ?_
  refine rcVl (as := [.int p0]) (rest := []) (cl := RX0) C (c_X0_monthCount l G a S p0 h0) F_X0_monthCount rfl bw548 bw550 bw25 (hE.S hS hAB) hP (va_recv hE.K hP (ci := 2) (q0 := 0) rfl rfl) hl.1 dX0_goMonths_2 ⟨Nat.le_of_ble_eq_true rfl, Nat.le_of_ble_eq_true rfl⟩ rfl (Nat.le_of_ble_eq_true rfl) ⟨Nat.le_of_ble_eq_true rfl, Nat.le_of_ble_eq_true rfl⟩ ?_
  refine lv_lload_n hx hb dX0_goMonths_5 rfl (lv_at hl 2 rfl) ?_
  refine lv_ladd hx hb dX0_goMonths_6 ?_
  refine lv_lstore (lv' := [(4, .long ((fX0_monthCount S p0) + p1)), (0, .ref (a 0)), (1, .int p0), (2, .long p1)]) hx hb dX0_goMonths_7 hl (Nat.le_of_ble_eq_true rfl) rfl (fun ls hl => ?_)
  refine lv_lload hx hb dX0_goMonths_9 (lv_at hl 0 rfl) ?_
  refine lv_ldc2 (v := (12 : Int64)) hx hb hown (hw _ bw543) dX0_goMonths_11 ?_
  refine rcSl (as := [.long ((fX0_monthCount S p0) + p1), .long (12 : Int64)]) (rest := []) C (c_J9_floorDiv_f86c9 l G ((fX0_monthCount S p0) + p1) (12 : Int64) (by decide)) F_J9_floorDiv_f86c9 rfl bw191 bw192 (hE.S hS hAB) vpn hl.1 dX0_goMonths_14 ⟨Nat.le_of_ble_eq_true rfl, Nat.le_of_ble_eq_true rfl⟩ rfl (Nat.le_of_ble_eq_true rfl) ⟨Nat.le_of_ble_eq_true rfl, Nat.le_of_ble_eq_true rfl⟩ ?_
  refine lv_lstore (lv' := [(6, .long (fJ9_floorDiv_f86c9 ((fX0_monthCount S p0) + p1) (12 : Int64))), (4, .long ((fX0_monthCount S p0) + p1)), (0, .ref (a 0)), (1, .int p0), (2, .long p1)]) hx hb dX0_goMonths_17 hl (Nat.le_of_ble_eq_true rfl) rfl (fun ls hl => ?_)
  refine lv_lload hx hb dX0_goMonths_19 (lv_at hl 0 rfl) ?_
  refine lv_ldc2 (v := (-9999 : Int64)) hx hb hown (hw _ bw552) dX0_goMonths_21 ?_
  refine W.lcmp hx hb dX0_goMonths_24 ?_
  refine lv_if_lt (tgt := 37) hx hb dX0_goMonths_25 (by decide) (fun c_1 => ?_) (fun c_1 => ?_)
  · refine lv_aload_n hx hb dX0_goMonths_37 rfl (lv_at hl 2 rfl) ?_
    refine wcVi (as := []) (rest := []) (cl := RX0) C (c_X0_refuse l G a S) F_X0_refuse rfl bw414 bw416 bw20 (hE.S hS hAB) hP hD hS hA hAB (va_recv hE.K hP (ci := 2) (q0 := 0) rfl rfl) hl.1 dX0_goMonths_38 ⟨Nat.le_of_ble_eq_true rfl, Nat.le_of_ble_eq_true rfl⟩ rfl (Nat.le_of_ble_eq_true rfl) ⟨Nat.le_of_ble_eq_true rfl, Nat.le_of_ble_eq_true rfl⟩ (fun H locs hP hD hS => ?_)
    exact we_i (wf := wX G a) hx hb hr hk hP hD hS (Nat.le_of_ble_eq_true rfl) (Nat.le_of_ble_eq_true rfl) dX0_goMonths_41 (if_pos c_1)
  · refine lv_lload hx hb dX0_goMonths_28 (lv_at hl 0 rfl) ?_
    refine lv_ldc2 (v := (9999 : Int64)) hx hb hown (hw _ bw553) dX0_goMonths_30 ?_
    refine W.lcmp hx hb dX0_goMonths_33 ?_
    refine lv_if_le (tgt := 42) hx hb dX0_goMonths_34 (by decide) (fun c_2 => ?_) (fun c_2 => ?_)
    · refine lv_aload_n hx hb dX0_goMonths_42 rfl (lv_at hl 2 rfl) ?_
      refine lv_iload_n hx hb dX0_goMonths_43 rfl (lv_at hl 3 rfl) ?_
      refine lv_lload hx hb dX0_goMonths_44 (lv_at hl 0 rfl) ?_
      refine lv_l2i (v := ((fJ9_floorDiv_f86c9 ((fX0_monthCount S p0) + p1) (12 : Int64)).toInt32)) hx hb dX0_goMonths_46 (by first | rfl | decide) ?_
      refine lv_lload hx hb dX0_goMonths_47 (lv_at hl 1 rfl) ?_
      refine lv_ldc2 (v := (12 : Int64)) hx hb hown (hw _ bw543) dX0_goMonths_49 ?_
      refine rcSl (as := [.long ((fX0_monthCount S p0) + p1), .long (12 : Int64)]) (rest := [.int ((fJ9_floorDiv_f86c9 ((fX0_monthCount S p0) + p1) (12 : Int64)).toInt32), .int p0, .ref (a 0)]) C (c_J9_floorMod_f86c9 l G ((fX0_monthCount S p0) + p1) (12 : Int64) (by decide)) F_J9_floorMod_f86c9 rfl bw195 bw196 (hE.S hS hAB) vpn hl.1 dX0_goMonths_52 ⟨Nat.le_of_ble_eq_true rfl, Nat.le_of_ble_eq_true rfl⟩ rfl (Nat.le_of_ble_eq_true rfl) ⟨Nat.le_of_ble_eq_true rfl, Nat.le_of_ble_eq_true rfl⟩ ?_
      refine lv_l2i (v := ((fJ9_floorMod_f86c9 ((fX0_monthCount S p0) + p1) (12 : Int64)).toInt32)) hx hb dX0_goMonths_55 (by first | rfl | decide) ?_
      refine lv_iconst (v := (1 : Int32)) hx hb dX0_goMonths_56 (by decide) ?_
      refine lv_iadd hx hb dX0_goMonths_57 ?_
      refine wcVi (as := [.int p0, .int ((fJ9_floorDiv_f86c9 ((fX0_monthCount S p0) + p1) (12 : Int64)).toInt32), .int (((fJ9_floorMod_f86c9 ((fX0_monthCount S p0) + p1) (12 : Int64)).toInt32) + (1 : Int32))]) (rest := []) (cl := RX0) C (c_X0_becomeMonth l G a S p0 ((fJ9_floorDiv_f86c9 ((fX0_monthCount S p0) + p1) (12 : Int64)).toInt32) (((fJ9_floorMod_f86c9 ((fX0_monthCount S p0) + p1) (12 : Int64)).toInt32) + (1 : Int32)) h0) F_X0_becomeMonth rfl bw471 bw473 bw23 (hE.S hS hAB) hP hD hS hA hAB (va_recv hE.K hP (ci := 2) (q0 := 0) rfl rfl) hl.1 dX0_goMonths_58 ⟨Nat.le_of_ble_eq_true rfl, Nat.le_of_ble_eq_true rfl⟩ rfl (Nat.le_of_ble_eq_true rfl) ⟨Nat.le_of_ble_eq_true rfl, Nat.le_of_ble_eq_true rfl⟩ (fun H locs hP hD hS => ?_)
      exact we_i (wf := wX G a) hx hb hr hk hP hD hS (Nat.le_of_ble_eq_true rfl) (Nat.le_of_ble_eq_true rfl) dX0_goMonths_61 (Eq.trans (if_neg c_1) (if_pos c_2))
    · refine lv_aload_n hx hb dX0_goMonths_37 rfl (lv_at hl 2 rfl) ?_
      refine wcVi (as := []) (rest := []) (cl := RX0) C (c_X0_refuse l G a S) F_X0_refuse rfl bw414 bw416 bw20 (hE.S hS hAB) hP hD hS hA hAB (va_recv hE.K hP (ci := 2) (q0 := 0) rfl rfl) hl.1 dX0_goMonths_38 ⟨Nat.le_of_ble_eq_true rfl, Nat.le_of_ble_eq_true rfl⟩ rfl (Nat.le_of_ble_eq_true rfl) ⟨Nat.le_of_ble_eq_true rfl, Nat.le_of_ble_eq_true rfl⟩ (fun H locs hP hD hS => ?_)
      exact we_i (wf := wX G a) hx hb hr hk hP hD hS (Nat.le_of_ble_eq_true rfl) (Nat.le_of_ble_eq_true rfl) dX0_goMonths_41 (Eq.trans (if_neg c_1) (if_neg c_2))

set_option maxRecDepth 100000 in
set_option maxHeartbeats 4000000 in
theorem c_X0_goLine (l : Launch) (G : GT) (a : Nat → Nat) (S : SX) (p0 : Int32) (p1 : Int64) (p2 : Int64) (h0 : vp_in p0 6) : WR l G yX0_goLine cX0_goLine 10 (some .int) 6 0 0 [.ref (a 0), .int p0, .long p1, .long p2] (wX G a S) (wX G a (gX0_goLine S p0 p1 p2).2) (some (.int (gX0_goLine S p0 p1 p2).1)) := by
  refine WR.ofW (own := RX0) rfl (by decide +kernel) (Nat.le_of_ble_eq_true rfl) ?_
  intro p e s m below meth c A C hr hk hnm hE hP hD hA hAB hS ls hl
  have hx := C.1
  have hb := C.2.1
  have hown := C.2.2.2.1
  have hw := C.2.2.2.2
  have hl : lv_has ls 10 [(0, .ref (a 0)), (1, .int p0), (2, .long p1), (4, .long p2)] := hl
  refine lv_aload_n hx hb dX0_goLine_0 rfl (lv_at hl 0 rfl) ?_
  refine va_get (D := gD G) (cl := vwCl) (tys := gT G) (ci := 2) (v := .ref (a 5)) (C := RX0) (T := TX0) (N := 12) hx hb hw inB_X0 hown hE.K hP 0 rfl rfl 4 (by decide) (hw _ bw98) (fun _ h9 => h9) rfl dX0_goLine_1 ?_
  refine lv_iload_n hx hb dX0_goLine_4 rfl (lv_at hl 1 rfl) ?_
  refine va_lald (tys := gT G) hx hb hE.K hP 5 1 rfl rfl h0 dX0_goLine_5 ?_
  refine lv_lload hx hb dX0_goLine_6 (lv_at hl 3 rfl) ?_
  refine lv_ladd hx hb dX0_goLine_8 ?_
  refine lv_lstore (lv' := [(6, .long (((xN S) p0.toNatClampNeg) + p2)), (0, .ref (a 0)), (1, .int p0), (2, .long p1), (4, .long p2)]) hx hb dX0_goLine_9 hl (Nat.le_of_ble_eq_true rfl) rfl (fun ls hl => ?_)
  refine lv_aload_n hx hb dX0_goLine_11 rfl (lv_at hl 1 rfl) ?_
  refine va_get (D := gD G) (cl := vwCl) (tys := gT G) (ci := 2) (v := .ref (a 4)) (C := RX0) (T := TX0) (N := 12) hx hb hw inB_X0 hown hE.K hP 0 rfl rfl 3 (by decide) (hw _ bw97) (fun _ h9 => h9) rfl dX0_goLine_12 ?_
  refine lv_iload_n hx hb dX0_goLine_15 rfl (lv_at hl 2 rfl) ?_
  refine va_lald (tys := gT G) hx hb hE.K hP 4 1 rfl rfl h0 dX0_goLine_16 ?_
  refine lv_lload_n hx hb dX0_goLine_17 rfl (lv_at hl 3 rfl) ?_
  refine lv_ladd hx hb dX0_goLine_18 ?_
  refine lv_lload hx hb dX0_goLine_19 (lv_at hl 0 rfl) ?_
  refine lv_ldc2 (v := (86400000000000 : Int64)) hx hb hown (hw _ bw190) dX0_goLine_21 ?_
  refine rcSl (as := [.long (((xN S) p0.toNatClampNeg) + p2), .long (86400000000000 : Int64)]) (rest := [.long (((xD S) p0.toNatClampNeg) + p1)]) C (c_J9_floorDiv_f86c9 l G (((xN S) p0.toNatClampNeg) + p2) (86400000000000 : Int64) (by decide)) F_J9_floorDiv_f86c9 rfl bw191 bw192 (hE.S hS hAB) vpn hl.1 dX0_goLine_24 ⟨Nat.le_of_ble_eq_true rfl, Nat.le_of_ble_eq_true rfl⟩ rfl (Nat.le_of_ble_eq_true rfl) ⟨Nat.le_of_ble_eq_true rfl, Nat.le_of_ble_eq_true rfl⟩ ?_
  refine lv_ladd hx hb dX0_goLine_27 ?_
  refine lv_lstore (lv' := [(8, .long ((((xD S) p0.toNatClampNeg) + p1) + (fJ9_floorDiv_f86c9 (((xN S) p0.toNatClampNeg) + p2) (86400000000000 : Int64)))), (6, .long (((xN S) p0.toNatClampNeg) + p2)), (0, .ref (a 0)), (1, .int p0), (2, .long p1), (4, .long p2)]) hx hb dX0_goLine_28 hl (Nat.le_of_ble_eq_true rfl) rfl (fun ls hl => ?_)
  refine lv_aload_n hx hb dX0_goLine_30 rfl (lv_at hl 2 rfl) ?_
  refine lv_iload_n hx hb dX0_goLine_31 rfl (lv_at hl 3 rfl) ?_
  refine lv_lload hx hb dX0_goLine_32 (lv_at hl 0 rfl) ?_
  refine lv_lload hx hb dX0_goLine_34 (lv_at hl 1 rfl) ?_
  refine lv_ldc2 (v := (86400000000000 : Int64)) hx hb hown (hw _ bw190) dX0_goLine_36 ?_
  refine rcSl (as := [.long (((xN S) p0.toNatClampNeg) + p2), .long (86400000000000 : Int64)]) (rest := [.long ((((xD S) p0.toNatClampNeg) + p1) + (fJ9_floorDiv_f86c9 (((xN S) p0.toNatClampNeg) + p2) (86400000000000 : Int64))), .int p0, .ref (a 0)]) C (c_J9_floorMod_f86c9 l G (((xN S) p0.toNatClampNeg) + p2) (86400000000000 : Int64) (by decide)) F_J9_floorMod_f86c9 rfl bw195 bw196 (hE.S hS hAB) vpn hl.1 dX0_goLine_39 ⟨Nat.le_of_ble_eq_true rfl, Nat.le_of_ble_eq_true rfl⟩ rfl (Nat.le_of_ble_eq_true rfl) ⟨Nat.le_of_ble_eq_true rfl, Nat.le_of_ble_eq_true rfl⟩ ?_
  refine wcVi (as := [.int p0, .long ((((xD S) p0.toNatClampNeg) + p1) + (fJ9_floorDiv_f86c9 (((xN S) p0.toNatClampNeg) + p2) (86400000000000 : Int64))), .long (fJ9_floorMod_f86c9 (((xN S) p0.toNatClampNeg) + p2) (86400000000000 : Int64))]) (rest := []) (cl := RX0) C (c_X0_becomeDay l G a S p0 ((((xD S) p0.toNatClampNeg) + p1) + (fJ9_floorDiv_f86c9 (((xN S) p0.toNatClampNeg) + p2) (86400000000000 : Int64))) (fJ9_floorMod_f86c9 (((xN S) p0.toNatClampNeg) + p2) (86400000000000 : Int64)) h0) F_X0_becomeDay rfl bw427 bw429 bw21 (hE.S hS hAB) hP hD hS hA hAB (va_recv hE.K hP (ci := 2) (q0 := 0) rfl rfl) hl.1 dX0_goLine_42 ⟨Nat.le_of_ble_eq_true rfl, Nat.le_of_ble_eq_true rfl⟩ rfl (Nat.le_of_ble_eq_true rfl) ⟨Nat.le_of_ble_eq_true rfl, Nat.le_of_ble_eq_true rfl⟩ (fun H locs hP hD hS => ?_)
  exact we_i (wf := wX G a) hx hb hr hk hP hD hS (Nat.le_of_ble_eq_true rfl) (Nat.le_of_ble_eq_true rfl) dX0_goLine_45 rfl

