set_option maxRecDepth 100000 in
set_option maxHeartbeats 4000000 in
theorem c_X2_lengthOfMonth (l : Launch) (G : GT) (b : Nat → Nat) (T : SM) (p0 : Int32) (hT : MO T) : WR l G yX2_lengthOfMonth cX2_lengthOfMonth 2 (some .int) 12 0 0 [.ref (b 0), .int p0] (wM G b T) (wM G b (gX2_lengthOfMonth T p0).2) (some (.int (gX2_lengthOfMonth T p0).1)) := by
  refine WR.ofW (own := RX2) rfl (by decide +kernel) (Nat.le_of_ble_eq_true rfl) ?_
  intro p e s m below meth c A C hr hk hnm hE hP hD hA hAB hS ls hl
  have hx := C.1
  have hb := C.2.1
  have hown := C.2.2.2.1
  have hw := C.2.2.2.2
  have hl : lv_has ls 2 [(0, .ref (b 0)), (1, .int p0)] := hl
  refine lv_aload_n hx hb dX2_lengthOfMonth_0 rfl (lv_at hl 0 rfl) ?_
  refine lv_iload_n hx hb dX2_lengthOfMonth_1 rfl (lv_at hl 1 rfl) ?_
  refine rcSi (as := [.int p0]) (rest := [.ref (b 0)]) C (c_X2_isNone l G p0) F_X2_isNone rfl bw1216 bw1217 (hE.S hS hAB) vpn hl.1 dX2_lengthOfMonth_2 ⟨Nat.le_of_ble_eq_true rfl, Nat.le_of_ble_eq_true rfl⟩ rfl (Nat.le_of_ble_eq_true rfl) ⟨Nat.le_of_ble_eq_true rfl, Nat.le_of_ble_eq_true rfl⟩ ?_
  refine lv_iconst (v := (0 : Int32)) hx hb dX2_lengthOfMonth_5 (by decide) ?_
  refine wcVi (as := [.int (fX2_isNone p0), .int (0 : Int32)]) (rest := []) (cl := RX2) C (c_X2_refuses l G b T (fX2_isNone p0) (0 : Int32)) F_X2_refuses rfl bw1219 bw1221 bw33 (hE.S hS hAB) hP hD hS hA hAB (va_recv hE.K hP (ci := 4) (q0 := 0) rfl rfl) hl.1 dX2_lengthOfMonth_6 ⟨Nat.le_of_ble_eq_true rfl, Nat.le_of_ble_eq_true rfl⟩ rfl (Nat.le_of_ble_eq_true rfl) ⟨Nat.le_of_ble_eq_true rfl, Nat.le_of_ble_eq_true rfl⟩ (fun H locs hP hD hS => ?_)
  have hP : va_P (gD G) vwCl (wM G b ((fth (fX2_isNone p0) (0 : Int32)), (my T), (mm T), (md T), (mt T), (T.2.2.2.2.2))) H := hP
  have hD : va_D A (wM G b ((fth (fX2_isNone p0) (0 : Int32)), (my T), (mm T), (md T), (mt T), (T.2.2.2.2.2))) := hD
  refine lv_if_eq (tgt := 16) hx hb dX2_lengthOfMonth_9 (by decide) (fun c_1 => ?_) (fun c_1 => ?_)
  · have c_1 := rf_p c_1
    refine lv_aload_n hx hb dX2_lengthOfMonth_16 rfl (lv_at hl 0 rfl) ?_
    refine va_get (D := gD G) (cl := vwCl) (tys := gT G) (ci := 4) (v := .ref (b 1)) (C := RX2) (T := TX2) (N := 12) hx hb hw inB_X2 hown hE.K hP 0 rfl rfl 1 (by decide) (hw _ bw1164) (fun _ h9 => h9) rfl dX2_lengthOfMonth_17 ?_
    refine lv_iload_n hx hb dX2_lengthOfMonth_20 rfl (lv_at hl 1 rfl) ?_
    refine va_iald (tys := gT G) hx hb hE.K hP 1 0 rfl rfl (none_in (frf_a c_1)) dX2_lengthOfMonth_21 ?_
    refine lv_aload_n hx hb dX2_lengthOfMonth_22 rfl (lv_at hl 0 rfl) ?_
    refine va_get (D := gD G) (cl := vwCl) (tys := gT G) (ci := 4) (v := .ref (b 2)) (C := RX2) (T := TX2) (N := 12) hx hb hw inB_X2 hown hE.K hP 0 rfl rfl 2 (by decide) (hw _ bw1165) (fun _ h9 => h9) rfl dX2_lengthOfMonth_23 ?_
    refine lv_iload_n hx hb dX2_lengthOfMonth_26 rfl (lv_at hl 1 rfl) ?_
    refine va_iald (tys := gT G) hx hb hE.K hP 2 0 rfl rfl (none_in (frf_a c_1)) dX2_lengthOfMonth_27 ?_
    refine rcSi (as := [.int ((my T) p0.toNatClampNeg), .int ((mm T) p0.toNatClampNeg)]) (rest := []) C (c_X2_daysOf l G ((my T) p0.toNatClampNeg) ((mm T) p0.toNatClampNeg)) F_X2_daysOf rfl bw1223 bw1224 (hE.S hS hAB) vpn hl.1 dX2_lengthOfMonth_28 ⟨Nat.le_of_ble_eq_true rfl, Nat.le_of_ble_eq_true rfl⟩ rfl (Nat.le_of_ble_eq_true rfl) ⟨Nat.le_of_ble_eq_true rfl, Nat.le_of_ble_eq_true rfl⟩ ?_
    exact we_i (wf := wM G b) hx hb hr hk hP hD hS (Nat.le_of_ble_eq_true rfl) (Nat.le_of_ble_eq_true rfl) dX2_lengthOfMonth_31 (if_pos c_1)
  · have c_1 := rf_n c_1
    refine lv_iconst (v := (0 : Int32)) hx hb dX2_lengthOfMonth_12 (by decide) ?_
    refine lv_goto (tgt := 31) hx hb dX2_lengthOfMonth_13 (by decide) ?_
    exact we_i (wf := wM G b) hx hb hr hk hP hD hS (Nat.le_of_ble_eq_true rfl) (Nat.le_of_ble_eq_true rfl) dX2_lengthOfMonth_31 (if_neg c_1)

set_option maxRecDepth 100000 in
set_option maxHeartbeats 4000000 in
theorem c_X2_isLeap (l : Launch) (G : GT) (b : Nat → Nat) (T : SM) (p0 : Int32) (hT : MO T) : WR l G yX2_isLeap cX2_isLeap 2 (some .boolean) 12 0 0 [.ref (b 0), .int p0] (wM G b T) (wM G b (gX2_isLeap T p0).2) (some (.int (gX2_isLeap T p0).1)) := by
  refine WR.ofW (own := RX2) rfl (by decide +kernel) (Nat.le_of_ble_eq_true rfl) ?_
  intro p e s m below meth c A C hr hk hnm hE hP hD hA hAB hS ls hl
  have hx := C.1
  have hb := C.2.1
  have hown := C.2.2.2.1
  have hw := C.2.2.2.2
  have hl : lv_has ls 2 [(0, .ref (b 0)), (1, .int p0)] := hl
  refine lv_aload_n hx hb dX2_isLeap_0 rfl (lv_at hl 0 rfl) ?_
  refine lv_iload_n hx hb dX2_isLeap_1 rfl (lv_at hl 1 rfl) ?_
  refine rcSi (as := [.int p0]) (rest := [.ref (b 0)]) C (c_X2_isNone l G p0) F_X2_isNone rfl bw1216 bw1217 (hE.S hS hAB) vpn hl.1 dX2_isLeap_2 ⟨Nat.le_of_ble_eq_true rfl, Nat.le_of_ble_eq_true rfl⟩ rfl (Nat.le_of_ble_eq_true rfl) ⟨Nat.le_of_ble_eq_true rfl, Nat.le_of_ble_eq_true rfl⟩ ?_
  refine lv_iconst (v := (0 : Int32)) hx hb dX2_isLeap_5 (by decide) ?_
  refine wcVi (as := [.int (fX2_isNone p0), .int (0 : Int32)]) (rest := []) (cl := RX2) C (c_X2_refuses l G b T (fX2_isNone p0) (0 : Int32)) F_X2_refuses rfl bw1219 bw1221 bw33 (hE.S hS hAB) hP hD hS hA hAB (va_recv hE.K hP (ci := 4) (q0 := 0) rfl rfl) hl.1 dX2_isLeap_6 ⟨Nat.le_of_ble_eq_true rfl, Nat.le_of_ble_eq_true rfl⟩ rfl (Nat.le_of_ble_eq_true rfl) ⟨Nat.le_of_ble_eq_true rfl, Nat.le_of_ble_eq_true rfl⟩ (fun H locs hP hD hS => ?_)
  have hP : va_P (gD G) vwCl (wM G b ((fth (fX2_isNone p0) (0 : Int32)), (my T), (mm T), (md T), (mt T), (T.2.2.2.2.2))) H := hP
  have hD : va_D A (wM G b ((fth (fX2_isNone p0) (0 : Int32)), (my T), (mm T), (md T), (mt T), (T.2.2.2.2.2))) := hD
  refine lv_if_ne (tgt := 28) hx hb dX2_isLeap_9 (by decide) (fun c_1 => ?_) (fun c_1 => ?_)
  · have c_1 := rf_n c_1
    refine lv_iconst (v := (0 : Int32)) hx hb dX2_isLeap_28 (by decide) ?_
    exact we_z (ty := .boolean) (wf := wM G b) hx hb hr hk (by decide) hP hD hS (Nat.le_of_ble_eq_true rfl) (Nat.le_of_ble_eq_true rfl) dX2_isLeap_29 (if_neg c_1)
  · have c_1 := rf_p c_1
    refine lv_aload_n hx hb dX2_isLeap_12 rfl (lv_at hl 0 rfl) ?_
    refine va_get (D := gD G) (cl := vwCl) (tys := gT G) (ci := 4) (v := .ref (b 1)) (C := RX2) (T := TX2) (N := 12) hx hb hw inB_X2 hown hE.K hP 0 rfl rfl 1 (by decide) (hw _ bw1164) (fun _ h9 => h9) rfl dX2_isLeap_13 ?_
    refine lv_iload_n hx hb dX2_isLeap_16 rfl (lv_at hl 1 rfl) ?_
    refine va_iald (tys := gT G) hx hb hE.K hP 1 0 rfl rfl (none_in (frf_a c_1)) dX2_isLeap_17 ?_
    refine rcSi (as := [.int ((my T) p0.toNatClampNeg)]) (rest := []) C (c_X2_isLeapYear l G ((my T) p0.toNatClampNeg)) F_X2_isLeapYear rfl bw1226 bw1227 (hE.S hS hAB) vpn hl.1 dX2_isLeap_18 ⟨Nat.le_of_ble_eq_true rfl, Nat.le_of_ble_eq_true rfl⟩ rfl (Nat.le_of_ble_eq_true rfl) ⟨Nat.le_of_ble_eq_true rfl, Nat.le_of_ble_eq_true rfl⟩ ?_
    refine lv_if_eq (tgt := 28) hx hb dX2_isLeap_21 (by decide) (fun c_2 => ?_) (fun c_2 => ?_)
    · refine lv_iconst (v := (0 : Int32)) hx hb dX2_isLeap_28 (by decide) ?_
      exact we_z (ty := .boolean) (wf := wM G b) hx hb hr hk (by decide) hP hD hS (Nat.le_of_ble_eq_true rfl) (Nat.le_of_ble_eq_true rfl) dX2_isLeap_29 (Eq.trans (if_pos c_1) (if_pos c_2))
    · refine lv_iconst (v := (1 : Int32)) hx hb dX2_isLeap_24 (by decide) ?_
      refine lv_goto (tgt := 29) hx hb dX2_isLeap_25 (by decide) ?_
      exact we_z (ty := .boolean) (wf := wM G b) hx hb hr hk (by decide) hP hD hS (Nat.le_of_ble_eq_true rfl) (Nat.le_of_ble_eq_true rfl) dX2_isLeap_29 (Eq.trans (if_pos c_1) (if_neg c_2))

set_option maxRecDepth 100000 in
set_option maxHeartbeats 4000000 in
theorem c_X2_compare (l : Launch) (G : GT) (b : Nat → Nat) (T : SM) (p0 : Int32) (p1 : Int32) (hT : MO T) : WR l G yX2_compare cX2_compare 3 (some .int) 12 0 0 [.ref (b 0), .int p0, .int p1] (wM G b T) (wM G b (gX2_compare T p0 p1).2) (some (.int (gX2_compare T p0 p1).1)) := by
  refine WR.ofW (own := RX2) rfl (by decide +kernel) (Nat.le_of_ble_eq_true rfl) ?_
  intro p e s m below meth c A C hr hk hnm hE hP hD hA hAB hS ls hl
  have hx := C.1
  have hb := C.2.1
  have hown := C.2.2.2.1
  have hw := C.2.2.2.2
  have hl : lv_has ls 3 [(0, .ref (b 0)), (1, .int p0), (2, .int p1)] := hl
  refine lv_aload_n hx hb dX2_compare_0 rfl (lv_at hl 0 rfl) ?_
  refine lv_iload_n hx hb dX2_compare_1 rfl (lv_at hl 1 rfl) ?_
  refine rcSi (as := [.int p0]) (rest := [.ref (b 0)]) C (c_X2_isNone l G p0) F_X2_isNone rfl bw1216 bw1217 (hE.S hS hAB) vpn hl.1 dX2_compare_2 ⟨Nat.le_of_ble_eq_true rfl, Nat.le_of_ble_eq_true rfl⟩ rfl (Nat.le_of_ble_eq_true rfl) ⟨Nat.le_of_ble_eq_true rfl, Nat.le_of_ble_eq_true rfl⟩ ?_
  refine lv_if_ne (tgt := 15) hx hb dX2_compare_5 (by decide) (fun c_1 => ?_) (fun c_1 => ?_)
  · refine lv_iconst (v := (1 : Int32)) hx hb dX2_compare_15 (by decide) ?_
    refine lv_goto (tgt := 20) hx hb dX2_compare_16 (by decide) ?_
    refine lv_iconst (v := (0 : Int32)) hx hb dX2_compare_20 (by decide) ?_
    refine wcVi (as := [.int (1 : Int32), .int (0 : Int32)]) (rest := []) (cl := RX2) C (c_X2_refuses l G b T (1 : Int32) (0 : Int32)) F_X2_refuses rfl bw1219 bw1221 bw33 (hE.S hS hAB) hP hD hS hA hAB (va_recv hE.K hP (ci := 4) (q0 := 0) rfl rfl) hl.1 dX2_compare_21 ⟨Nat.le_of_ble_eq_true rfl, Nat.le_of_ble_eq_true rfl⟩ rfl (Nat.le_of_ble_eq_true rfl) ⟨Nat.le_of_ble_eq_true rfl, Nat.le_of_ble_eq_true rfl⟩ (fun H locs hP hD hS => ?_)
    have hP : va_P (gD G) vwCl (wM G b ((fth (1 : Int32) (0 : Int32)), (my T), (mm T), (md T), (mt T), (T.2.2.2.2.2))) H := hP
    have hD : va_D A (wM G b ((fth (1 : Int32) (0 : Int32)), (my T), (mm T), (md T), (mt T), (T.2.2.2.2.2))) := hD
    refine lv_if_eq (tgt := 31) hx hb dX2_compare_24 (by decide) (fun c_x => absurd c_x (frf_l1 (0 : Int32))) (fun _ => ?_)
    refine lv_iconst (v := (0 : Int32)) hx hb dX2_compare_27 (by decide) ?_
    refine lv_goto (tgt := 37) hx hb dX2_compare_28 (by decide) ?_
    exact we_i (wf := wM G b) hx hb hr hk hP hD hS (Nat.le_of_ble_eq_true rfl) (Nat.le_of_ble_eq_true rfl) dX2_compare_37 (if_neg c_1)
  · refine lv_iload_n hx hb dX2_compare_8 rfl (lv_at hl 2 rfl) ?_
    refine rcSi (as := [.int p1]) (rest := [.ref (b 0)]) C (c_X2_isNone l G p1) F_X2_isNone rfl bw1216 bw1217 (hE.S hS hAB) vpn hl.1 dX2_compare_9 ⟨Nat.le_of_ble_eq_true rfl, Nat.le_of_ble_eq_true rfl⟩ rfl (Nat.le_of_ble_eq_true rfl) ⟨Nat.le_of_ble_eq_true rfl, Nat.le_of_ble_eq_true rfl⟩ ?_
    refine k_dia (b := (fX2_isNone p1) = 0) (x := (0 : Int32)) (y := (1 : Int32)) (Wg := fun z9 => W _ _ _ _ _ _ _ _ _ _ _ _ _ _ _ (F0 m 20 ls (.int z9 :: _))) ?_ (fun t9 f9 => lv_if_eq (tgt := 19) hx hb dX2_compare_12 (by decide) (fun c_x => lv_iconst (v := (0 : Int32)) hx hb dX2_compare_19 (by decide) (t9 c_x)) (fun c_x => lv_iconst (v := (1 : Int32)) hx hb dX2_compare_15 (by decide) (lv_goto (tgt := 20) hx hb dX2_compare_16 (by decide) (f9 c_x))))
    refine lv_iconst (v := (0 : Int32)) hx hb dX2_compare_20 (by decide) ?_
    refine wcVi (as := [.int (if (fX2_isNone p1) = 0 then (0 : Int32) else (1 : Int32)), .int (0 : Int32)]) (rest := []) (cl := RX2) C (c_X2_refuses l G b T (if (fX2_isNone p1) = 0 then (0 : Int32) else (1 : Int32)) (0 : Int32)) F_X2_refuses rfl bw1219 bw1221 bw33 (hE.S hS hAB) hP hD hS hA hAB (va_recv hE.K hP (ci := 4) (q0 := 0) rfl rfl) hl.1 dX2_compare_21 ⟨Nat.le_of_ble_eq_true rfl, Nat.le_of_ble_eq_true rfl⟩ rfl (Nat.le_of_ble_eq_true rfl) ⟨Nat.le_of_ble_eq_true rfl, Nat.le_of_ble_eq_true rfl⟩ (fun H locs hP hD hS => ?_)
    have hP : va_P (gD G) vwCl (wM G b ((fth (if (fX2_isNone p1) = 0 then (0 : Int32) else (1 : Int32)) (0 : Int32)), (my T), (mm T), (md T), (mt T), (T.2.2.2.2.2))) H := hP
    have hD : va_D A (wM G b ((fth (if (fX2_isNone p1) = 0 then (0 : Int32) else (1 : Int32)) (0 : Int32)), (my T), (mm T), (md T), (mt T), (T.2.2.2.2.2))) := hD
    refine lv_if_eq (tgt := 31) hx hb dX2_compare_24 (by decide) (fun c_2 => ?_) (fun c_2 => ?_)
    · have c_2 := rf_p c_2
      refine lv_aload_n hx hb dX2_compare_31 rfl (lv_at hl 0 rfl) ?_
      refine lv_iload_n hx hb dX2_compare_32 rfl (lv_at hl 1 rfl) ?_
      refine lv_iload_n hx hb dX2_compare_33 rfl (lv_at hl 2 rfl) ?_
      refine rcVi (as := [.int p0, .int p1]) (rest := []) (cl := RX2) C (c_X2_order l G b ((fth (if (fX2_isNone p1) = 0 then (0 : Int32) else (1 : Int32)) (0 : Int32)), (my T), (mm T), (md T), (mt T), (T.2.2.2.2.2)) p0 p1 (none_in c_1) (none_in (dia0 (frf_a c_2))) (MO.same hT rfl)) F_X2_order rfl bw1561 bw1563 bw48 (hE.S hS hAB) hP (va_recv hE.K hP (ci := 4) (q0 := 0) rfl rfl) hl.1 dX2_compare_34 ⟨Nat.le_of_ble_eq_true rfl, Nat.le_of_ble_eq_true rfl⟩ rfl (Nat.le_of_ble_eq_true rfl) ⟨Nat.le_of_ble_eq_true rfl, Nat.le_of_ble_eq_true rfl⟩ ?_
      exact we_i (wf := wM G b) hx hb hr hk hP hD hS (Nat.le_of_ble_eq_true rfl) (Nat.le_of_ble_eq_true rfl) dX2_compare_37 (Eq.trans (if_pos c_1) (if_pos c_2))
    · have c_2 := rf_n c_2
      refine lv_iconst (v := (0 : Int32)) hx hb dX2_compare_27 (by decide) ?_
      refine lv_goto (tgt := 37) hx hb dX2_compare_28 (by decide) ?_
      exact we_i (wf := wM G b) hx hb hr hk hP hD hS (Nat.le_of_ble_eq_true rfl) (Nat.le_of_ble_eq_true rfl) dX2_compare_37 (Eq.trans (if_pos c_1) (if_neg c_2))

set_option maxRecDepth 100000 in
set_option maxHeartbeats 4000000 in
theorem c_X2_isSame (l : Launch) (G : GT) (b : Nat → Nat) (T : SM) (p0 : Int32) (p1 : Int32) (hT : MO T) : WR l G yX2_isSame cX2_isSame 3 (some .boolean) 12 0 0 [.ref (b 0), .int p0, .int p1] (wM G b T) (wM G b (gX2_isSame T p0 p1).2) (some (.int (gX2_isSame T p0 p1).1)) := by
  refine WR.ofW (own := RX2) rfl (by decide +kernel) (Nat.le_of_ble_eq_true rfl) ?_
  intro p e s m below meth c A C hr hk hnm hE hP hD hA hAB hS ls hl
  have hx := C.1
  have hb := C.2.1
  have hown := C.2.2.2.1
  have hw := C.2.2.2.2
  have hl : lv_has ls 3 [(0, .ref (b 0)), (1, .int p0), (2, .int p1)] := hl
  refine lv_aload_n hx hb dX2_isSame_0 rfl (lv_at hl 0 rfl) ?_
  refine lv_iload_n hx hb dX2_isSame_1 rfl (lv_at hl 1 rfl) ?_
  refine rcSi (as := [.int p0]) (rest := [.ref (b 0)]) C (c_X2_isNone l G p0) F_X2_isNone rfl bw1216 bw1217 (hE.S hS hAB) vpn hl.1 dX2_isSame_2 ⟨Nat.le_of_ble_eq_true rfl, Nat.le_of_ble_eq_true rfl⟩ rfl (Nat.le_of_ble_eq_true rfl) ⟨Nat.le_of_ble_eq_true rfl, Nat.le_of_ble_eq_true rfl⟩ ?_
  refine lv_if_ne (tgt := 15) hx hb dX2_isSame_5 (by decide) (fun c_1 => ?_) (fun c_1 => ?_)
  · refine lv_iconst (v := (1 : Int32)) hx hb dX2_isSame_15 (by decide) ?_
    refine lv_goto (tgt := 20) hx hb dX2_isSame_16 (by decide) ?_
    refine lv_iconst (v := (0 : Int32)) hx hb dX2_isSame_20 (by decide) ?_
    refine wcVi (as := [.int (1 : Int32), .int (0 : Int32)]) (rest := []) (cl := RX2) C (c_X2_refuses l G b T (1 : Int32) (0 : Int32)) F_X2_refuses rfl bw1219 bw1221 bw33 (hE.S hS hAB) hP hD hS hA hAB (va_recv hE.K hP (ci := 4) (q0 := 0) rfl rfl) hl.1 dX2_isSame_21 ⟨Nat.le_of_ble_eq_true rfl, Nat.le_of_ble_eq_true rfl⟩ rfl (Nat.le_of_ble_eq_true rfl) ⟨Nat.le_of_ble_eq_true rfl, Nat.le_of_ble_eq_true rfl⟩ (fun H locs hP hD hS => ?_)
    have hP : va_P (gD G) vwCl (wM G b ((fth (1 : Int32) (0 : Int32)), (my T), (mm T), (md T), (mt T), (T.2.2.2.2.2))) H := hP
    have hD : va_D A (wM G b ((fth (1 : Int32) (0 : Int32)), (my T), (mm T), (md T), (mt T), (T.2.2.2.2.2))) := hD
    refine lv_if_ne (tgt := 40) hx hb dX2_isSame_24 (by decide) (fun _ => ?_) (fun c_x => absurd c_x (frf_l1 (0 : Int32)))
    refine lv_iconst (v := (0 : Int32)) hx hb dX2_isSame_40 (by decide) ?_
    exact we_z (ty := .boolean) (wf := wM G b) hx hb hr hk (by decide) hP hD hS (Nat.le_of_ble_eq_true rfl) (Nat.le_of_ble_eq_true rfl) dX2_isSame_41 (if_neg c_1)
  · refine lv_iload_n hx hb dX2_isSame_8 rfl (lv_at hl 2 rfl) ?_
    refine rcSi (as := [.int p1]) (rest := [.ref (b 0)]) C (c_X2_isNone l G p1) F_X2_isNone rfl bw1216 bw1217 (hE.S hS hAB) vpn hl.1 dX2_isSame_9 ⟨Nat.le_of_ble_eq_true rfl, Nat.le_of_ble_eq_true rfl⟩ rfl (Nat.le_of_ble_eq_true rfl) ⟨Nat.le_of_ble_eq_true rfl, Nat.le_of_ble_eq_true rfl⟩ ?_
    refine k_dia (b := (fX2_isNone p1) = 0) (x := (0 : Int32)) (y := (1 : Int32)) (Wg := fun z9 => W _ _ _ _ _ _ _ _ _ _ _ _ _ _ _ (F0 m 20 ls (.int z9 :: _))) ?_ (fun t9 f9 => lv_if_eq (tgt := 19) hx hb dX2_isSame_12 (by decide) (fun c_x => lv_iconst (v := (0 : Int32)) hx hb dX2_isSame_19 (by decide) (t9 c_x)) (fun c_x => lv_iconst (v := (1 : Int32)) hx hb dX2_isSame_15 (by decide) (lv_goto (tgt := 20) hx hb dX2_isSame_16 (by decide) (f9 c_x))))
    refine lv_iconst (v := (0 : Int32)) hx hb dX2_isSame_20 (by decide) ?_
    refine wcVi (as := [.int (if (fX2_isNone p1) = 0 then (0 : Int32) else (1 : Int32)), .int (0 : Int32)]) (rest := []) (cl := RX2) C (c_X2_refuses l G b T (if (fX2_isNone p1) = 0 then (0 : Int32) else (1 : Int32)) (0 : Int32)) F_X2_refuses rfl bw1219 bw1221 bw33 (hE.S hS hAB) hP hD hS hA hAB (va_recv hE.K hP (ci := 4) (q0 := 0) rfl rfl) hl.1 dX2_isSame_21 ⟨Nat.le_of_ble_eq_true rfl, Nat.le_of_ble_eq_true rfl⟩ rfl (Nat.le_of_ble_eq_true rfl) ⟨Nat.le_of_ble_eq_true rfl, Nat.le_of_ble_eq_true rfl⟩ (fun H locs hP hD hS => ?_)
    have hP : va_P (gD G) vwCl (wM G b ((fth (if (fX2_isNone p1) = 0 then (0 : Int32) else (1 : Int32)) (0 : Int32)), (my T), (mm T), (md T), (mt T), (T.2.2.2.2.2))) H := hP
    have hD : va_D A (wM G b ((fth (if (fX2_isNone p1) = 0 then (0 : Int32) else (1 : Int32)) (0 : Int32)), (my T), (mm T), (md T), (mt T), (T.2.2.2.2.2))) := hD
    refine lv_if_ne (tgt := 40) hx hb dX2_isSame_24 (by decide) (fun c_2 => ?_) (fun c_2 => ?_)
    · have c_2 := rf_n c_2
      refine lv_iconst (v := (0 : Int32)) hx hb dX2_isSame_40 (by decide) ?_
      exact we_z (ty := .boolean) (wf := wM G b) hx hb hr hk (by decide) hP hD hS (Nat.le_of_ble_eq_true rfl) (Nat.le_of_ble_eq_true rfl) dX2_isSame_41 (Eq.trans (if_pos c_1) (if_neg c_2))
    · have c_2 := rf_p c_2
      refine lv_aload_n hx hb dX2_isSame_27 rfl (lv_at hl 0 rfl) ?_
      refine lv_iload_n hx hb dX2_isSame_28 rfl (lv_at hl 1 rfl) ?_
      refine lv_iload_n hx hb dX2_isSame_29 rfl (lv_at hl 2 rfl) ?_
      refine rcVi (as := [.int p0, .int p1]) (rest := []) (cl := RX2) C (c_X2_order l G b ((fth (if (fX2_isNone p1) = 0 then (0 : Int32) else (1 : Int32)) (0 : Int32)), (my T), (mm T), (md T), (mt T), (T.2.2.2.2.2)) p0 p1 (none_in c_1) (none_in (dia0 (frf_a c_2))) (MO.same hT rfl)) F_X2_order rfl bw1561 bw1563 bw48 (hE.S hS hAB) hP (va_recv hE.K hP (ci := 4) (q0 := 0) rfl rfl) hl.1 dX2_isSame_30 ⟨Nat.le_of_ble_eq_true rfl, Nat.le_of_ble_eq_true rfl⟩ rfl (Nat.le_of_ble_eq_true rfl) ⟨Nat.le_of_ble_eq_true rfl, Nat.le_of_ble_eq_true rfl⟩ ?_
      refine lv_if_ne (tgt := 40) hx hb dX2_isSame_33 (by decide) (fun c_3 => ?_) (fun c_3 => ?_)
      · refine lv_iconst (v := (0 : Int32)) hx hb dX2_isSame_40 (by decide) ?_
        exact we_z (ty := .boolean) (wf := wM G b) hx hb hr hk (by decide) hP hD hS (Nat.le_of_ble_eq_true rfl) (Nat.le_of_ble_eq_true rfl) dX2_isSame_41 (Eq.trans (if_pos c_1) (Eq.trans (if_pos c_2) (if_neg c_3)))
      · refine lv_iconst (v := (1 : Int32)) hx hb dX2_isSame_36 (by decide) ?_
        refine lv_goto (tgt := 41) hx hb dX2_isSame_37 (by decide) ?_
        exact we_z (ty := .boolean) (wf := wM G b) hx hb hr hk (by decide) hP hD hS (Nat.le_of_ble_eq_true rfl) (Nat.le_of_ble_eq_true rfl) dX2_isSame_41 (Eq.trans (if_pos c_1) (Eq.trans (if_pos c_2) (if_pos c_3)))

