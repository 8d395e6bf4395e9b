set_option maxRecDepth 100000 in
set_option maxHeartbeats 4000000 in
theorem c_X2_ofDay (l : Launch) (G : GT) (b : Nat → Nat) (T : SM) (p0 : Int32) (p1 : Int32) (hT : MO T) : WR l G yX2_ofDay cX2_ofDay 3 (some .int) 12 1 3 [.ref (b 0), .int p0, .int p1] (wM G b T) (wM G b (gX2_ofDay T p0 p1).2) (some (.int (gX2_ofDay T p0 p1).1)) := by
  refine WR.ofW (own := RX2) rfl (by decide +kernel) (Nat.le_of_ble_eq_true rfl) ?_
  intro p e s m below meth c A C hr hk hnm hE hP hD hA hAB hS ls hl
  have hx := C.1
  have hb := C.2.1
  have hown := C.2.2.2.1
  have hw := C.2.2.2.2
  have hl : lv_has ls 3 [(0, .ref (b 0)), (1, .int p0), (2, .int p1)] := hl
  refine lv_aload_n hx hb dX2_ofDay_0 rfl (lv_at hl 0 rfl) ?_
  refine lv_iload_n hx hb dX2_ofDay_1 rfl (lv_at hl 1 rfl) ?_
  refine rcSi (as := [.int p0]) (rest := [.ref (b 0)]) C (c_X2_isNone l G p0) F_X2_isNone rfl bw1216 bw1217 (hE.S hS hAB) vpn hl.1 dX2_ofDay_2 ⟨Nat.le_of_ble_eq_true rfl, Nat.le_of_ble_eq_true rfl⟩ rfl (Nat.le_of_ble_eq_true rfl) ⟨Nat.le_of_ble_eq_true rfl, Nat.le_of_ble_eq_true rfl⟩ ?_
  refine lv_ldc (v := (-10000000 : Int32)) hx hb hown (hw _ bw1279) dX2_ofDay_5 ?_
  refine lv_ldc (v := (10000000 : Int32)) hx hb hown (hw _ bw1280) dX2_ofDay_7 ?_
  refine lv_iload_n hx hb dX2_ofDay_9 rfl (lv_at hl 2 rfl) ?_
  refine rcSi (as := [.int (-10000000 : Int32), .int (10000000 : Int32), .int p1]) (rest := [.int (fX2_isNone p0), .ref (b 0)]) C (c_X2_isFrom l G (-10000000 : Int32) (10000000 : Int32) p1) F_X2_isFrom rfl bw1208 bw1209 (hE.S hS hAB) vpn hl.1 dX2_ofDay_10 ⟨Nat.le_of_ble_eq_true rfl, Nat.le_of_ble_eq_true rfl⟩ rfl (Nat.le_of_ble_eq_true rfl) ⟨Nat.le_of_ble_eq_true rfl, Nat.le_of_ble_eq_true rfl⟩ ?_
  refine k_dia (b := (fX2_isFrom (-10000000 : Int32) (10000000 : Int32) p1) = 0) (x := (1 : Int32)) (y := (0 : Int32)) (Wg := fun z9 => W _ _ _ _ _ _ _ _ _ _ _ _ _ _ _ (F0 m 21 ls (.int z9 :: _))) ?_ (fun t9 f9 => lv_if_ne (tgt := 20) hx hb dX2_ofDay_13 (by decide) (fun c_x => lv_iconst (v := (0 : Int32)) hx hb dX2_ofDay_20 (by decide) (f9 c_x)) (fun c_x => lv_iconst (v := (1 : Int32)) hx hb dX2_ofDay_16 (by decide) (lv_goto (tgt := 21) hx hb dX2_ofDay_17 (by decide) (t9 c_x))))
  refine wcVi (as := [.int (fX2_isNone p0), .int (if (fX2_isFrom (-10000000 : Int32) (10000000 : Int32) p1) = 0 then (1 : Int32) else (0 : Int32))]) (rest := []) (cl := RX2) C (c_X2_refuses l G b T (fX2_isNone p0) (if (fX2_isFrom (-10000000 : Int32) (10000000 : Int32) p1) = 0 then (1 : Int32) else (0 : Int32))) F_X2_refuses rfl bw1219 bw1221 bw33 (hE.S hS hAB) hP hD hS hA hAB (va_recv hE.K hP (ci := 4) (q0 := 0) rfl rfl) hl.1 dX2_ofDay_21 ⟨Nat.le_of_ble_eq_true rfl, Nat.le_of_ble_eq_true rfl⟩ rfl (Nat.le_of_ble_eq_true rfl) ⟨Nat.le_of_ble_eq_true rfl, Nat.le_of_ble_eq_true rfl⟩ (fun H locs hP hD hS => ?_)
  have hP : va_P (gD G) vwCl (wM G b ((fth (fX2_isNone p0) (if (fX2_isFrom (-10000000 : Int32) (10000000 : Int32) p1) = 0 then (1 : Int32) else (0 : Int32))), (my T), (mm T), (md T), (mt T), (T.2.2.2.2.2))) H := hP
  have hD : va_D A (wM G b ((fth (fX2_isNone p0) (if (fX2_isFrom (-10000000 : Int32) (10000000 : Int32) p1) = 0 then (1 : Int32) else (0 : Int32))), (my T), (mm T), (md T), (mt T), (T.2.2.2.2.2))) := hD
  refine lv_if_eq (tgt := 29) hx hb dX2_ofDay_24 (by decide) (fun c_1 => ?_) (fun c_1 => ?_)
  · have c_1 := rf_p c_1
    refine lv_aload_n hx hb dX2_ofDay_29 rfl (lv_at hl 0 rfl) ?_
    refine lv_iload_n hx hb dX2_ofDay_30 rfl (lv_at hl 1 rfl) ?_
    refine lv_iload_n hx hb dX2_ofDay_31 rfl (lv_at hl 2 rfl) ?_
    refine lv_i2l (v := (p1.toInt64)) hx hb dX2_ofDay_32 (by first | rfl | decide) ?_
    refine lv_aload_n hx hb dX2_ofDay_33 rfl (lv_at hl 0 rfl) ?_
    refine lv_iconst (v := (2 : Int32)) hx hb dX2_ofDay_34 (by decide) ?_
    refine rcVl (as := [.int (2 : Int32)]) (rest := [.long (p1.toInt64), .int p0, .ref (b 0)]) (cl := RX2) C (c_X2_handTime l G b ((fth (fX2_isNone p0) (if (fX2_isFrom (-10000000 : Int32) (10000000 : Int32) p1) = 0 then (1 : Int32) else (0 : Int32))), (my T), (mm T), (md T), (mt T), (T.2.2.2.2.2)) (2 : Int32)) F_X2_handTime rfl bw1233 bw1235 bw35 (hE.S hS hAB) hP (va_recv hE.K hP (ci := 4) (q0 := 0) rfl rfl) hl.1 dX2_ofDay_35 ⟨Nat.le_of_ble_eq_true rfl, Nat.le_of_ble_eq_true rfl⟩ rfl (Nat.le_of_ble_eq_true rfl) ⟨Nat.le_of_ble_eq_true rfl, Nat.le_of_ble_eq_true rfl⟩ ?_
    refine wcVi (as := [.int p0, .long (p1.toInt64), .long (fX2_handTime ((fth (fX2_isNone p0) (if (fX2_isFrom (-10000000 : Int32) (10000000 : Int32) p1) = 0 then (1 : Int32) else (0 : Int32))), (my T), (mm T), (md T), (mt T), (T.2.2.2.2.2)) (2 : Int32))]) (rest := []) (cl := RX2) C (c_X2_becomeDay l G b ((fth (fX2_isNone p0) (if (fX2_isFrom (-10000000 : Int32) (10000000 : Int32) p1) = 0 then (1 : Int32) else (0 : Int32))), (my T), (mm T), (md T), (mt T), (T.2.2.2.2.2)) p0 (p1.toInt64) (fX2_handTime ((fth (fX2_isNone p0) (if (fX2_isFrom (-10000000 : Int32) (10000000 : Int32) p1) = 0 then (1 : Int32) else (0 : Int32))), (my T), (mm T), (md T), (mt T), (T.2.2.2.2.2)) (2 : Int32)) (none_in (frf_a c_1)) (MO.same hT rfl)) F_X2_becomeDay rfl bw1281 bw1283 bw39 (hE.S hS hAB) hP hD hS hA hAB (va_recv hE.K hP (ci := 4) (q0 := 0) rfl rfl) hl.1 dX2_ofDay_38 ⟨Nat.le_of_ble_eq_true rfl, Nat.le_of_ble_eq_true rfl⟩ rfl (Nat.le_of_ble_eq_true rfl) ⟨Nat.le_of_ble_eq_true rfl, Nat.le_of_ble_eq_true rfl⟩ (fun H locs hP hD hS => ?_)
    exact we_i (wf := wM G b) hx hb hr hk hP hD hS (Nat.le_of_ble_eq_true rfl) (Nat.le_of_ble_eq_true rfl) dX2_ofDay_41 (if_pos c_1)
  · have c_1 := rf_n c_1
    refine lv_iconst (v := (0 : Int32)) hx hb dX2_ofDay_27 (by decide) ?_
    exact we_i (wf := wM G b) hx hb hr hk hP hD hS (Nat.le_of_ble_eq_true rfl) (Nat.le_of_ble_eq_true rfl) dX2_ofDay_28 (if_neg c_1)

set_option maxRecDepth 100000 in
set_option maxHeartbeats 4000000 in
theorem c_X2_copy (l : Launch) (G : GT) (b : Nat → Nat) (T : SM) (p0 : Int32) (p1 : Int32) (hT : MO T) : WR l G yX2_copy cX2_copy 3 (some .int) 12 0 0 [.ref (b 0), .int p0, .int p1] (wM G b T) (wM G b (gX2_copy T p0 p1).2) (some (.int (gX2_copy T p0 p1).1)) := by
  refine WR.ofW (own := RX2) rfl (by decide +kernel) (Nat.le_of_ble_eq_true rfl) ?_
  intro p e s m below meth c A C hr hk hnm hE hP hD hA hAB hS ls hl
  have hx := C.1
  have hb := C.2.1
  have hown := C.2.2.2.1
  have hw := C.2.2.2.2
  have hl : lv_has ls 3 [(0, .ref (b 0)), (1, .int p0), (2, .int p1)] := hl
  refine lv_aload_n hx hb dX2_copy_0 rfl (lv_at hl 0 rfl) ?_
  refine lv_iload_n hx hb dX2_copy_1 rfl (lv_at hl 1 rfl) ?_
  refine rcSi (as := [.int p0]) (rest := [.ref (b 0)]) C (c_X2_isNone l G p0) F_X2_isNone rfl bw1216 bw1217 (hE.S hS hAB) vpn hl.1 dX2_copy_2 ⟨Nat.le_of_ble_eq_true rfl, Nat.le_of_ble_eq_true rfl⟩ rfl (Nat.le_of_ble_eq_true rfl) ⟨Nat.le_of_ble_eq_true rfl, Nat.le_of_ble_eq_true rfl⟩ ?_
  refine lv_if_ne (tgt := 15) hx hb dX2_copy_5 (by decide) (fun c_1 => ?_) (fun c_1 => ?_)
  · refine lv_iconst (v := (1 : Int32)) hx hb dX2_copy_15 (by decide) ?_
    refine lv_goto (tgt := 20) hx hb dX2_copy_16 (by decide) ?_
    refine lv_iconst (v := (0 : Int32)) hx hb dX2_copy_20 (by decide) ?_
    refine wcVi (as := [.int (1 : Int32), .int (0 : Int32)]) (rest := []) (cl := RX2) C (c_X2_refuses l G b T (1 : Int32) (0 : Int32)) F_X2_refuses rfl bw1219 bw1221 bw33 (hE.S hS hAB) hP hD hS hA hAB (va_recv hE.K hP (ci := 4) (q0 := 0) rfl rfl) hl.1 dX2_copy_21 ⟨Nat.le_of_ble_eq_true rfl, Nat.le_of_ble_eq_true rfl⟩ rfl (Nat.le_of_ble_eq_true rfl) ⟨Nat.le_of_ble_eq_true rfl, Nat.le_of_ble_eq_true rfl⟩ (fun H locs hP hD hS => ?_)
    have hP : va_P (gD G) vwCl (wM G b ((fth (1 : Int32) (0 : Int32)), (my T), (mm T), (md T), (mt T), (T.2.2.2.2.2))) H := hP
    have hD : va_D A (wM G b ((fth (1 : Int32) (0 : Int32)), (my T), (mm T), (md T), (mt T), (T.2.2.2.2.2))) := hD
    refine lv_if_eq (tgt := 29) hx hb dX2_copy_24 (by decide) (fun c_x => absurd c_x (frf_l1 (0 : Int32))) (fun _ => ?_)
    refine lv_iconst (v := (0 : Int32)) hx hb dX2_copy_27 (by decide) ?_
    exact we_i (wf := wM G b) hx hb hr hk hP hD hS (Nat.le_of_ble_eq_true rfl) (Nat.le_of_ble_eq_true rfl) dX2_copy_28 (if_neg c_1)
  · refine lv_iload_n hx hb dX2_copy_8 rfl (lv_at hl 2 rfl) ?_
    refine rcSi (as := [.int p1]) (rest := [.ref (b 0)]) C (c_X2_isNone l G p1) F_X2_isNone rfl bw1216 bw1217 (hE.S hS hAB) vpn hl.1 dX2_copy_9 ⟨Nat.le_of_ble_eq_true rfl, Nat.le_of_ble_eq_true rfl⟩ rfl (Nat.le_of_ble_eq_true rfl) ⟨Nat.le_of_ble_eq_true rfl, Nat.le_of_ble_eq_true rfl⟩ ?_
    refine k_dia (b := (fX2_isNone p1) = 0) (x := (0 : Int32)) (y := (1 : Int32)) (Wg := fun z9 => W _ _ _ _ _ _ _ _ _ _ _ _ _ _ _ (F0 m 20 ls (.int z9 :: _))) ?_ (fun t9 f9 => lv_if_eq (tgt := 19) hx hb dX2_copy_12 (by decide) (fun c_x => lv_iconst (v := (0 : Int32)) hx hb dX2_copy_19 (by decide) (t9 c_x)) (fun c_x => lv_iconst (v := (1 : Int32)) hx hb dX2_copy_15 (by decide) (lv_goto (tgt := 20) hx hb dX2_copy_16 (by decide) (f9 c_x))))
    refine lv_iconst (v := (0 : Int32)) hx hb dX2_copy_20 (by decide) ?_
    refine wcVi (as := [.int (if (fX2_isNone p1) = 0 then (0 : Int32) else (1 : Int32)), .int (0 : Int32)]) (rest := []) (cl := RX2) C (c_X2_refuses l G b T (if (fX2_isNone p1) = 0 then (0 : Int32) else (1 : Int32)) (0 : Int32)) F_X2_refuses rfl bw1219 bw1221 bw33 (hE.S hS hAB) hP hD hS hA hAB (va_recv hE.K hP (ci := 4) (q0 := 0) rfl rfl) hl.1 dX2_copy_21 ⟨Nat.le_of_ble_eq_true rfl, Nat.le_of_ble_eq_true rfl⟩ rfl (Nat.le_of_ble_eq_true rfl) ⟨Nat.le_of_ble_eq_true rfl, Nat.le_of_ble_eq_true rfl⟩ (fun H locs hP hD hS => ?_)
    have hP : va_P (gD G) vwCl (wM G b ((fth (if (fX2_isNone p1) = 0 then (0 : Int32) else (1 : Int32)) (0 : Int32)), (my T), (mm T), (md T), (mt T), (T.2.2.2.2.2))) H := hP
    have hD : va_D A (wM G b ((fth (if (fX2_isNone p1) = 0 then (0 : Int32) else (1 : Int32)) (0 : Int32)), (my T), (mm T), (md T), (mt T), (T.2.2.2.2.2))) := hD
    refine lv_if_eq (tgt := 29) hx hb dX2_copy_24 (by decide) (fun c_2 => ?_) (fun c_2 => ?_)
    · have c_2 := rf_p c_2
      refine lv_aload_n hx hb dX2_copy_29 rfl (lv_at hl 0 rfl) ?_
      refine lv_iload_n hx hb dX2_copy_30 rfl (lv_at hl 1 rfl) ?_
      refine lv_aload_n hx hb dX2_copy_31 rfl (lv_at hl 0 rfl) ?_
      refine va_get (D := gD G) (cl := vwCl) (tys := gT G) (ci := 4) (v := .ref (b 1)) (C := RX2) (T := TX2) (N := 12) hx hb hw inB_X2 hown hE.K hP 0 rfl rfl 1 (by decide) (hw _ bw1164) (fun _ h9 => h9) rfl dX2_copy_32 ?_
      refine lv_iload_n hx hb dX2_copy_35 rfl (lv_at hl 2 rfl) ?_
      refine va_iald (tys := gT G) hx hb hE.K hP 1 0 rfl rfl (none_in (dia0 (frf_a c_2))) dX2_copy_36 ?_
      refine lv_aload_n hx hb dX2_copy_37 rfl (lv_at hl 0 rfl) ?_
      refine va_get (D := gD G) (cl := vwCl) (tys := gT G) (ci := 4) (v := .ref (b 2)) (C := RX2) (T := TX2) (N := 12) hx hb hw inB_X2 hown hE.K hP 0 rfl rfl 2 (by decide) (hw _ bw1165) (fun _ h9 => h9) rfl dX2_copy_38 ?_
      refine lv_iload_n hx hb dX2_copy_41 rfl (lv_at hl 2 rfl) ?_
      refine va_iald (tys := gT G) hx hb hE.K hP 2 0 rfl rfl (none_in (dia0 (frf_a c_2))) dX2_copy_42 ?_
      refine lv_aload_n hx hb dX2_copy_43 rfl (lv_at hl 0 rfl) ?_
      refine va_get (D := gD G) (cl := vwCl) (tys := gT G) (ci := 4) (v := .ref (b 3)) (C := RX2) (T := TX2) (N := 12) hx hb hw inB_X2 hown hE.K hP 0 rfl rfl 3 (by decide) (hw _ bw1166) (fun _ h9 => h9) rfl dX2_copy_44 ?_
      refine lv_iload_n hx hb dX2_copy_47 rfl (lv_at hl 2 rfl) ?_
      refine va_iald (tys := gT G) hx hb hE.K hP 3 0 rfl rfl (none_in (dia0 (frf_a c_2))) dX2_copy_48 ?_
      refine lv_aload_n hx hb dX2_copy_49 rfl (lv_at hl 0 rfl) ?_
      refine va_get (D := gD G) (cl := vwCl) (tys := gT G) (ci := 4) (v := .ref (b 4)) (C := RX2) (T := TX2) (N := 12) hx hb hw inB_X2 hown hE.K hP 0 rfl rfl 4 (by decide) (hw _ bw1167) (fun _ h9 => h9) rfl dX2_copy_50 ?_
      refine lv_iload_n hx hb dX2_copy_53 rfl (lv_at hl 2 rfl) ?_
      refine va_lald (tys := gT G) hx hb hE.K hP 4 1 rfl rfl (none_in (dia0 (frf_a c_2))) dX2_copy_54 ?_
      refine wcVi (as := [.int p0, .int ((my T) p1.toNatClampNeg), .int ((mm T) p1.toNatClampNeg), .int ((md T) p1.toNatClampNeg), .long ((mt T) p1.toNatClampNeg)]) (rest := []) (cl := RX2) C (c_X2_become l G b ((fth (if (fX2_isNone p1) = 0 then (0 : Int32) else (1 : Int32)) (0 : Int32)), (my T), (mm T), (md T), (mt T), (T.2.2.2.2.2)) p0 ((my T) p1.toNatClampNeg) ((mm T) p1.toNatClampNeg) ((md T) p1.toNatClampNeg) ((mt T) p1.toNatClampNeg) (none_in c_1) (MO.same hT rfl) (MO.at hT (none_in (dia0 (frf_a c_2))))) F_X2_become rfl bw1239 bw1241 bw36 (hE.S hS hAB) hP hD hS hA hAB (va_recv hE.K hP (ci := 4) (q0 := 0) rfl rfl) hl.1 dX2_copy_55 ⟨Nat.le_of_ble_eq_true rfl, Nat.le_of_ble_eq_true rfl⟩ rfl (Nat.le_of_ble_eq_true rfl) ⟨Nat.le_of_ble_eq_true rfl, Nat.le_of_ble_eq_true rfl⟩ (fun H locs hP hD hS => ?_)
      exact we_i (wf := wM G b) hx hb hr hk hP hD hS (Nat.le_of_ble_eq_true rfl) (Nat.le_of_ble_eq_true rfl) dX2_copy_58 (Eq.trans (if_pos c_1) (if_pos c_2))
    · have c_2 := rf_n c_2
      refine lv_iconst (v := (0 : Int32)) hx hb dX2_copy_27 (by decide) ?_
      exact we_i (wf := wM G b) hx hb hr hk hP hD hS (Nat.le_of_ble_eq_true rfl) (Nat.le_of_ble_eq_true rfl) dX2_copy_28 (Eq.trans (if_pos c_1) (if_neg c_2))

