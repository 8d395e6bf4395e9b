set_option maxRecDepth 100000 in
set_option maxHeartbeats 4000000 in
theorem c_X2_takeDate (l : Launch) (G : GT) (b : Nat → Nat) (T : SM) (p0 : Int32) (p1 : Int32) (hT : MO T) : WR l G yX2_takeDate cX2_takeDate 3 (some .int) 12 0 0 [.ref (b 0), .int p0, .int p1] (wM G b T) (wM G b (gX2_takeDate T p0 p1).2) (some (.int (gX2_takeDate T p0 p1).1)) := by
  refine WR.ofW (own := RX2) rfl (by decide +kernel) (Nat.le_of_ble_eq_true rfl) ?_
  intro p e s m below meth c A C hr hk hnm hE hP hD hA hAB hS ls hl
  have hx := C.1
  have hb := C.2.1
  have hown := C.2.2.2.1
  have hw := C.2.2.2.2
  have hl : lv_has ls 3 [(0, .ref (b 0)), (1, .int p0), (2, .int p1)] := hl
  refine lv_aload_n hx hb dX2_takeDate_0 rfl (lv_at hl 0 rfl) ?_
  refine lv_iload_n hx hb dX2_takeDate_1 rfl (lv_at hl 1 rfl) ?_
  refine rcSi (as := [.int p0]) (rest := [.ref (b 0)]) C (c_X2_isNone l G p0) F_X2_isNone rfl bw1216 bw1217 (hE.S hS hAB) vpn hl.1 dX2_takeDate_2 ⟨Nat.le_of_ble_eq_true rfl, Nat.le_of_ble_eq_true rfl⟩ rfl (Nat.le_of_ble_eq_true rfl) ⟨Nat.le_of_ble_eq_true rfl, Nat.le_of_ble_eq_true rfl⟩ ?_
  refine lv_if_ne (tgt := 15) hx hb dX2_takeDate_5 (by decide) (fun c_1 => ?_) (fun c_1 => ?_)
  · refine lv_iconst (v := (1 : Int32)) hx hb dX2_takeDate_15 (by decide) ?_
    refine lv_goto (tgt := 20) hx hb dX2_takeDate_16 (by decide) ?_
    refine lv_iconst (v := (0 : Int32)) hx hb dX2_takeDate_20 (by decide) ?_
    refine wcVi (as := [.int (1 : Int32), .int (0 : Int32)]) (rest := []) (cl := RX2) C (c_X2_refuses l G b T (1 : Int32) (0 : Int32)) F_X2_refuses rfl bw1219 bw1221 bw33 (hE.S hS hAB) hP hD hS hA hAB (va_recv hE.K hP (ci := 4) (q0 := 0) rfl rfl) hl.1 dX2_takeDate_21 ⟨Nat.le_of_ble_eq_true rfl, Nat.le_of_ble_eq_true rfl⟩ rfl (Nat.le_of_ble_eq_true rfl) ⟨Nat.le_of_ble_eq_true rfl, Nat.le_of_ble_eq_true rfl⟩ (fun H locs hP hD hS => ?_)
    have hP : va_P (gD G) vwCl (wM G b ((fth (1 : Int32) (0 : Int32)), (my T), (mm T), (md T), (mt T), (T.2.2.2.2.2))) H := hP
    have hD : va_D A (wM G b ((fth (1 : Int32) (0 : Int32)), (my T), (mm T), (md T), (mt T), (T.2.2.2.2.2))) := hD
    refine lv_if_eq (tgt := 29) hx hb dX2_takeDate_24 (by decide) (fun c_x => absurd c_x (frf_l1 (0 : Int32))) (fun _ => ?_)
    refine lv_iconst (v := (0 : Int32)) hx hb dX2_takeDate_27 (by decide) ?_
    exact we_i (wf := wM G b) hx hb hr hk hP hD hS (Nat.le_of_ble_eq_true rfl) (Nat.le_of_ble_eq_true rfl) dX2_takeDate_28 (if_neg c_1)
  · refine lv_iload_n hx hb dX2_takeDate_8 rfl (lv_at hl 2 rfl) ?_
    refine rcSi (as := [.int p1]) (rest := [.ref (b 0)]) C (c_X2_isNone l G p1) F_X2_isNone rfl bw1216 bw1217 (hE.S hS hAB) vpn hl.1 dX2_takeDate_9 ⟨Nat.le_of_ble_eq_true rfl, Nat.le_of_ble_eq_true rfl⟩ rfl (Nat.le_of_ble_eq_true rfl) ⟨Nat.le_of_ble_eq_true rfl, Nat.le_of_ble_eq_true rfl⟩ ?_
    refine k_dia (b := (fX2_isNone p1) = 0) (x := (0 : Int32)) (y := (1 : Int32)) (Wg := fun z9 => W _ _ _ _ _ _ _ _ _ _ _ _ _ _ _ (F0 m 20 ls (.int z9 :: _))) ?_ (fun t9 f9 => lv_if_eq (tgt := 19) hx hb dX2_takeDate_12 (by decide) (fun c_x => lv_iconst (v := (0 : Int32)) hx hb dX2_takeDate_19 (by decide) (t9 c_x)) (fun c_x => lv_iconst (v := (1 : Int32)) hx hb dX2_takeDate_15 (by decide) (lv_goto (tgt := 20) hx hb dX2_takeDate_16 (by decide) (f9 c_x))))
    refine lv_iconst (v := (0 : Int32)) hx hb dX2_takeDate_20 (by decide) ?_
    refine wcVi (as := [.int (if (fX2_isNone p1) = 0 then (0 : Int32) else (1 : Int32)), .int (0 : Int32)]) (rest := []) (cl := RX2) C (c_X2_refuses l G b T (if (fX2_isNone p1) = 0 then (0 : Int32) else (1 : Int32)) (0 : Int32)) F_X2_refuses rfl bw1219 bw1221 bw33 (hE.S hS hAB) hP hD hS hA hAB (va_recv hE.K hP (ci := 4) (q0 := 0) rfl rfl) hl.1 dX2_takeDate_21 ⟨Nat.le_of_ble_eq_true rfl, Nat.le_of_ble_eq_true rfl⟩ rfl (Nat.le_of_ble_eq_true rfl) ⟨Nat.le_of_ble_eq_true rfl, Nat.le_of_ble_eq_true rfl⟩ (fun H locs hP hD hS => ?_)
    have hP : va_P (gD G) vwCl (wM G b ((fth (if (fX2_isNone p1) = 0 then (0 : Int32) else (1 : Int32)) (0 : Int32)), (my T), (mm T), (md T), (mt T), (T.2.2.2.2.2))) H := hP
    have hD : va_D A (wM G b ((fth (if (fX2_isNone p1) = 0 then (0 : Int32) else (1 : Int32)) (0 : Int32)), (my T), (mm T), (md T), (mt T), (T.2.2.2.2.2))) := hD
    refine lv_if_eq (tgt := 29) hx hb dX2_takeDate_24 (by decide) (fun c_2 => ?_) (fun c_2 => ?_)
    · have c_2 := rf_p c_2
      refine lv_aload_n hx hb dX2_takeDate_29 rfl (lv_at hl 0 rfl) ?_
      refine lv_iload_n hx hb dX2_takeDate_30 rfl (lv_at hl 1 rfl) ?_
      refine lv_aload_n hx hb dX2_takeDate_31 rfl (lv_at hl 0 rfl) ?_
      refine va_get (D := gD G) (cl := vwCl) (tys := gT G) (ci := 4) (v := .ref (b 1)) (C := RX2) (T := TX2) (N := 12) hx hb hw inB_X2 hown hE.K hP 0 rfl rfl 1 (by decide) (hw _ bw1164) (fun _ h9 => h9) rfl dX2_takeDate_32 ?_
      refine lv_iload_n hx hb dX2_takeDate_35 rfl (lv_at hl 2 rfl) ?_
      refine va_iald (tys := gT G) hx hb hE.K hP 1 0 rfl rfl (none_in (dia0 (frf_a c_2))) dX2_takeDate_36 ?_
      refine lv_aload_n hx hb dX2_takeDate_37 rfl (lv_at hl 0 rfl) ?_
      refine va_get (D := gD G) (cl := vwCl) (tys := gT G) (ci := 4) (v := .ref (b 2)) (C := RX2) (T := TX2) (N := 12) hx hb hw inB_X2 hown hE.K hP 0 rfl rfl 2 (by decide) (hw _ bw1165) (fun _ h9 => h9) rfl dX2_takeDate_38 ?_
      refine lv_iload_n hx hb dX2_takeDate_41 rfl (lv_at hl 2 rfl) ?_
      refine va_iald (tys := gT G) hx hb hE.K hP 2 0 rfl rfl (none_in (dia0 (frf_a c_2))) dX2_takeDate_42 ?_
      refine lv_aload_n hx hb dX2_takeDate_43 rfl (lv_at hl 0 rfl) ?_
      refine va_get (D := gD G) (cl := vwCl) (tys := gT G) (ci := 4) (v := .ref (b 3)) (C := RX2) (T := TX2) (N := 12) hx hb hw inB_X2 hown hE.K hP 0 rfl rfl 3 (by decide) (hw _ bw1166) (fun _ h9 => h9) rfl dX2_takeDate_44 ?_
      refine lv_iload_n hx hb dX2_takeDate_47 rfl (lv_at hl 2 rfl) ?_
      refine va_iald (tys := gT G) hx hb hE.K hP 3 0 rfl rfl (none_in (dia0 (frf_a c_2))) dX2_takeDate_48 ?_
      refine lv_aload_n hx hb dX2_takeDate_49 rfl (lv_at hl 0 rfl) ?_
      refine va_get (D := gD G) (cl := vwCl) (tys := gT G) (ci := 4) (v := .ref (b 4)) (C := RX2) (T := TX2) (N := 12) hx hb hw inB_X2 hown hE.K hP 0 rfl rfl 4 (by decide) (hw _ bw1167) (fun _ h9 => h9) rfl dX2_takeDate_50 ?_
      refine lv_iload_n hx hb dX2_takeDate_53 rfl (lv_at hl 1 rfl) ?_
      refine va_lald (tys := gT G) hx hb hE.K hP 4 1 rfl rfl (none_in c_1) dX2_takeDate_54 ?_
      refine wcVi (as := [.int p0, .int ((my T) p1.toNatClampNeg), .int ((mm T) p1.toNatClampNeg), .int ((md T) p1.toNatClampNeg), .long ((mt T) p0.toNatClampNeg)]) (rest := []) (cl := RX2) C (c_X2_become l G b ((fth (if (fX2_isNone p1) = 0 then (0 : Int32) else (1 : Int32)) (0 : Int32)), (my T), (mm T), (md T), (mt T), (T.2.2.2.2.2)) p0 ((my T) p1.toNatClampNeg) ((mm T) p1.toNatClampNeg) ((md T) p1.toNatClampNeg) ((mt T) p0.toNatClampNeg) (none_in c_1) (MO.same hT rfl) (MO.at hT (none_in (dia0 (frf_a c_2))))) F_X2_become rfl bw1239 bw1241 bw36 (hE.S hS hAB) hP hD hS hA hAB (va_recv hE.K hP (ci := 4) (q0 := 0) rfl rfl) hl.1 dX2_takeDate_55 ⟨Nat.le_of_ble_eq_true rfl, Nat.le_of_ble_eq_true rfl⟩ rfl (Nat.le_of_ble_eq_true rfl) ⟨Nat.le_of_ble_eq_true rfl, Nat.le_of_ble_eq_true rfl⟩ (fun H locs hP hD hS => ?_)
      exact we_i (wf := wM G b) hx hb hr hk hP hD hS (Nat.le_of_ble_eq_true rfl) (Nat.le_of_ble_eq_true rfl) dX2_takeDate_58 (Eq.trans (if_pos c_1) (if_pos c_2))
    · have c_2 := rf_n c_2
      refine lv_iconst (v := (0 : Int32)) hx hb dX2_takeDate_27 (by decide) ?_
      exact we_i (wf := wM G b) hx hb hr hk hP hD hS (Nat.le_of_ble_eq_true rfl) (Nat.le_of_ble_eq_true rfl) dX2_takeDate_28 (Eq.trans (if_pos c_1) (if_neg c_2))

set_option maxRecDepth 100000 in
set_option maxHeartbeats 4000000 in
theorem c_X2_takeTime (l : Launch) (G : GT) (b : Nat → Nat) (T : SM) (p0 : Int32) (p1 : Int32) (hT : MO T) : WR l G yX2_takeTime cX2_takeTime 3 (some .int) 12 0 0 [.ref (b 0), .int p0, .int p1] (wM G b T) (wM G b (gX2_takeTime T p0 p1).2) (some (.int (gX2_takeTime T p0 p1).1)) := by
  refine WR.ofW (own := RX2) rfl (by decide +kernel) (Nat.le_of_ble_eq_true rfl) ?_
  intro p e s m below meth c A C hr hk hnm hE hP hD hA hAB hS ls hl
  have hx := C.1
  have hb := C.2.1
  have hown := C.2.2.2.1
  have hw := C.2.2.2.2
  have hl : lv_has ls 3 [(0, .ref (b 0)), (1, .int p0), (2, .int p1)] := hl
  refine lv_aload_n hx hb dX2_takeTime_0 rfl (lv_at hl 0 rfl) ?_
  refine lv_iload_n hx hb dX2_takeTime_1 rfl (lv_at hl 1 rfl) ?_
  refine rcSi (as := [.int p0]) (rest := [.ref (b 0)]) C (c_X2_isNone l G p0) F_X2_isNone rfl bw1216 bw1217 (hE.S hS hAB) vpn hl.1 dX2_takeTime_2 ⟨Nat.le_of_ble_eq_true rfl, Nat.le_of_ble_eq_true rfl⟩ rfl (Nat.le_of_ble_eq_true rfl) ⟨Nat.le_of_ble_eq_true rfl, Nat.le_of_ble_eq_true rfl⟩ ?_
  refine lv_if_ne (tgt := 15) hx hb dX2_takeTime_5 (by decide) (fun c_1 => ?_) (fun c_1 => ?_)
  · refine lv_iconst (v := (1 : Int32)) hx hb dX2_takeTime_15 (by decide) ?_
    refine lv_goto (tgt := 20) hx hb dX2_takeTime_16 (by decide) ?_
    refine lv_iconst (v := (0 : Int32)) hx hb dX2_takeTime_20 (by decide) ?_
    refine wcVi (as := [.int (1 : Int32), .int (0 : Int32)]) (rest := []) (cl := RX2) C (c_X2_refuses l G b T (1 : Int32) (0 : Int32)) F_X2_refuses rfl bw1219 bw1221 bw33 (hE.S hS hAB) hP hD hS hA hAB (va_recv hE.K hP (ci := 4) (q0 := 0) rfl rfl) hl.1 dX2_takeTime_21 ⟨Nat.le_of_ble_eq_true rfl, Nat.le_of_ble_eq_true rfl⟩ rfl (Nat.le_of_ble_eq_true rfl) ⟨Nat.le_of_ble_eq_true rfl, Nat.le_of_ble_eq_true rfl⟩ (fun H locs hP hD hS => ?_)
    have hP : va_P (gD G) vwCl (wM G b ((fth (1 : Int32) (0 : Int32)), (my T), (mm T), (md T), (mt T), (T.2.2.2.2.2))) H := hP
    have hD : va_D A (wM G b ((fth (1 : Int32) (0 : Int32)), (my T), (mm T), (md T), (mt T), (T.2.2.2.2.2))) := hD
    refine lv_if_eq (tgt := 29) hx hb dX2_takeTime_24 (by decide) (fun c_x => absurd c_x (frf_l1 (0 : Int32))) (fun _ => ?_)
    refine lv_iconst (v := (0 : Int32)) hx hb dX2_takeTime_27 (by decide) ?_
    exact we_i (wf := wM G b) hx hb hr hk hP hD hS (Nat.le_of_ble_eq_true rfl) (Nat.le_of_ble_eq_true rfl) dX2_takeTime_28 (if_neg c_1)
  · refine lv_iload_n hx hb dX2_takeTime_8 rfl (lv_at hl 2 rfl) ?_
    refine rcSi (as := [.int p1]) (rest := [.ref (b 0)]) C (c_X2_isNone l G p1) F_X2_isNone rfl bw1216 bw1217 (hE.S hS hAB) vpn hl.1 dX2_takeTime_9 ⟨Nat.le_of_ble_eq_true rfl, Nat.le_of_ble_eq_true rfl⟩ rfl (Nat.le_of_ble_eq_true rfl) ⟨Nat.le_of_ble_eq_true rfl, Nat.le_of_ble_eq_true rfl⟩ ?_
    refine k_dia (b := (fX2_isNone p1) = 0) (x := (0 : Int32)) (y := (1 : Int32)) (Wg := fun z9 => W _ _ _ _ _ _ _ _ _ _ _ _ _ _ _ (F0 m 20 ls (.int z9 :: _))) ?_ (fun t9 f9 => lv_if_eq (tgt := 19) hx hb dX2_takeTime_12 (by decide) (fun c_x => lv_iconst (v := (0 : Int32)) hx hb dX2_takeTime_19 (by decide) (t9 c_x)) (fun c_x => lv_iconst (v := (1 : Int32)) hx hb dX2_takeTime_15 (by decide) (lv_goto (tgt := 20) hx hb dX2_takeTime_16 (by decide) (f9 c_x))))
    refine lv_iconst (v := (0 : Int32)) hx hb dX2_takeTime_20 (by decide) ?_
    refine wcVi (as := [.int (if (fX2_isNone p1) = 0 then (0 : Int32) else (1 : Int32)), .int (0 : Int32)]) (rest := []) (cl := RX2) C (c_X2_refuses l G b T (if (fX2_isNone p1) = 0 then (0 : Int32) else (1 : Int32)) (0 : Int32)) F_X2_refuses rfl bw1219 bw1221 bw33 (hE.S hS hAB) hP hD hS hA hAB (va_recv hE.K hP (ci := 4) (q0 := 0) rfl rfl) hl.1 dX2_takeTime_21 ⟨Nat.le_of_ble_eq_true rfl, Nat.le_of_ble_eq_true rfl⟩ rfl (Nat.le_of_ble_eq_true rfl) ⟨Nat.le_of_ble_eq_true rfl, Nat.le_of_ble_eq_true rfl⟩ (fun H locs hP hD hS => ?_)
    have hP : va_P (gD G) vwCl (wM G b ((fth (if (fX2_isNone p1) = 0 then (0 : Int32) else (1 : Int32)) (0 : Int32)), (my T), (mm T), (md T), (mt T), (T.2.2.2.2.2))) H := hP
    have hD : va_D A (wM G b ((fth (if (fX2_isNone p1) = 0 then (0 : Int32) else (1 : Int32)) (0 : Int32)), (my T), (mm T), (md T), (mt T), (T.2.2.2.2.2))) := hD
    refine lv_if_eq (tgt := 29) hx hb dX2_takeTime_24 (by decide) (fun c_2 => ?_) (fun c_2 => ?_)
    · have c_2 := rf_p c_2
      refine lv_aload_n hx hb dX2_takeTime_29 rfl (lv_at hl 0 rfl) ?_
      refine lv_iload_n hx hb dX2_takeTime_30 rfl (lv_at hl 1 rfl) ?_
      refine lv_aload_n hx hb dX2_takeTime_31 rfl (lv_at hl 0 rfl) ?_
      refine va_get (D := gD G) (cl := vwCl) (tys := gT G) (ci := 4) (v := .ref (b 1)) (C := RX2) (T := TX2) (N := 12) hx hb hw inB_X2 hown hE.K hP 0 rfl rfl 1 (by decide) (hw _ bw1164) (fun _ h9 => h9) rfl dX2_takeTime_32 ?_
      refine lv_iload_n hx hb dX2_takeTime_35 rfl (lv_at hl 1 rfl) ?_
      refine va_iald (tys := gT G) hx hb hE.K hP 1 0 rfl rfl (none_in c_1) dX2_takeTime_36 ?_
      refine lv_aload_n hx hb dX2_takeTime_37 rfl (lv_at hl 0 rfl) ?_
      refine va_get (D := gD G) (cl := vwCl) (tys := gT G) (ci := 4) (v := .ref (b 2)) (C := RX2) (T := TX2) (N := 12) hx hb hw inB_X2 hown hE.K hP 0 rfl rfl 2 (by decide) (hw _ bw1165) (fun _ h9 => h9) rfl dX2_takeTime_38 ?_
      refine lv_iload_n hx hb dX2_takeTime_41 rfl (lv_at hl 1 rfl) ?_
      refine va_iald (tys := gT G) hx hb hE.K hP 2 0 rfl rfl (none_in c_1) dX2_takeTime_42 ?_
      refine lv_aload_n hx hb dX2_takeTime_43 rfl (lv_at hl 0 rfl) ?_
      refine va_get (D := gD G) (cl := vwCl) (tys := gT G) (ci := 4) (v := .ref (b 3)) (C := RX2) (T := TX2) (N := 12) hx hb hw inB_X2 hown hE.K hP 0 rfl rfl 3 (by decide) (hw _ bw1166) (fun _ h9 => h9) rfl dX2_takeTime_44 ?_
      refine lv_iload_n hx hb dX2_takeTime_47 rfl (lv_at hl 1 rfl) ?_
      refine va_iald (tys := gT G) hx hb hE.K hP 3 0 rfl rfl (none_in c_1) dX2_takeTime_48 ?_
      refine lv_aload_n hx hb dX2_takeTime_49 rfl (lv_at hl 0 rfl) ?_
      refine va_get (D := gD G) (cl := vwCl) (tys := gT G) (ci := 4) (v := .ref (b 4)) (C := RX2) (T := TX2) (N := 12) hx hb hw inB_X2 hown hE.K hP 0 rfl rfl 4 (by decide) (hw _ bw1167) (fun _ h9 => h9) rfl dX2_takeTime_50 ?_
      refine lv_iload_n hx hb dX2_takeTime_53 rfl (lv_at hl 2 rfl) ?_
      refine va_lald (tys := gT G) hx hb hE.K hP 4 1 rfl rfl (none_in (dia0 (frf_a c_2))) dX2_takeTime_54 ?_
      refine wcVi (as := [.int p0, .int ((my T) p0.toNatClampNeg), .int ((mm T) p0.toNatClampNeg), .int ((md T) p0.toNatClampNeg), .long ((mt T) p1.toNatClampNeg)]) (rest := []) (cl := RX2) C (c_X2_become l G b ((fth (if (fX2_isNone p1) = 0 then (0 : Int32) else (1 : Int32)) (0 : Int32)), (my T), (mm T), (md T), (mt T), (T.2.2.2.2.2)) p0 ((my T) p0.toNatClampNeg) ((mm T) p0.toNatClampNeg) ((md T) p0.toNatClampNeg) ((mt T) p1.toNatClampNeg) (none_in c_1) (MO.same hT rfl) (MO.at hT (none_in c_1))) F_X2_become rfl bw1239 bw1241 bw36 (hE.S hS hAB) hP hD hS hA hAB (va_recv hE.K hP (ci := 4) (q0 := 0) rfl rfl) hl.1 dX2_takeTime_55 ⟨Nat.le_of_ble_eq_true rfl, Nat.le_of_ble_eq_true rfl⟩ rfl (Nat.le_of_ble_eq_true rfl) ⟨Nat.le_of_ble_eq_true rfl, Nat.le_of_ble_eq_true rfl⟩ (fun H locs hP hD hS => ?_)
      exact we_i (wf := wM G b) hx hb hr hk hP hD hS (Nat.le_of_ble_eq_true rfl) (Nat.le_of_ble_eq_true rfl) dX2_takeTime_58 (Eq.trans (if_pos c_1) (if_pos c_2))
    · have c_2 := rf_n c_2
      refine lv_iconst (v := (0 : Int32)) hx hb dX2_takeTime_27 (by decide) ?_
      exact we_i (wf := wM G b) hx hb hr hk hP hD hS (Nat.le_of_ble_eq_true rfl) (Nat.le_of_ble_eq_true rfl) dX2_takeTime_28 (Eq.trans (if_pos c_1) (if_neg c_2))

