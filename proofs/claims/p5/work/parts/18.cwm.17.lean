set_option maxRecDepth 100000 in
set_option maxHeartbeats 4000000 in
theorem c_X2_isSameAs (l : Launch) (G : GT) (b : Nat → Nat) (T : SM) (p0 : Int32) (p1 : Int32) (hT : MO T) : WR l G yX2_isSameAs cX2_isSameAs 3 (some .boolean) 12 0 0 [.ref (b 0), .int p0, .int p1] (wM G b T) (wM G b (gX2_isSameAs T p0 p1).2) (some (.int (gX2_isSameAs T p0 p1).1)) := by
  refine WR.ofW (own := RX2) rfl (by decide +kernel) (Nat.le_of_ble_eq_true rfl) ?_
  intro p e s m below meth c A C hr hk hnm hE hP hD hA hAB hS ls hl
  have hx := C.1
  have hb := C.2.1
  have hown := C.2.2.2.1
  have hw := C.2.2.2.2
  have hl : lv_has ls 3 [(0, .ref (b 0)), (1, .int p0), (2, .int p1)] := hl
  refine lv_aload_n hx hb dX2_isSameAs_0 rfl (lv_at hl 0 rfl) ?_
  refine lv_iload_n hx hb dX2_isSameAs_1 rfl (lv_at hl 1 rfl) ?_
  refine rcSi (as := [.int p0]) (rest := [.ref (b 0)]) C (c_X2_isNone l G p0) F_X2_isNone rfl bw1216 bw1217 (hE.S hS hAB) vpn hl.1 dX2_isSameAs_2 ⟨Nat.le_of_ble_eq_true rfl, Nat.le_of_ble_eq_true rfl⟩ rfl (Nat.le_of_ble_eq_true rfl) ⟨Nat.le_of_ble_eq_true rfl, Nat.le_of_ble_eq_true rfl⟩ ?_
  refine lv_iconst (v := (0 : Int32)) hx hb dX2_isSameAs_5 (by decide) ?_
  refine lv_iconst (v := (4 : Int32)) hx hb dX2_isSameAs_6 (by decide) ?_
  refine lv_iload_n hx hb dX2_isSameAs_7 rfl (lv_at hl 2 rfl) ?_
  refine rcSi (as := [.int (0 : Int32), .int (4 : Int32), .int p1]) (rest := [.int (fX2_isNone p0), .ref (b 0)]) C (c_X2_isFrom l G (0 : Int32) (4 : Int32) p1) F_X2_isFrom rfl bw1208 bw1209 (hE.S hS hAB) vpn hl.1 dX2_isSameAs_8 ⟨Nat.le_of_ble_eq_true rfl, Nat.le_of_ble_eq_true rfl⟩ rfl (Nat.le_of_ble_eq_true rfl) ⟨Nat.le_of_ble_eq_true rfl, Nat.le_of_ble_eq_true rfl⟩ ?_
  refine k_dia (b := (fX2_isFrom (0 : Int32) (4 : Int32) p1) = 0) (x := (1 : Int32)) (y := (0 : Int32)) (Wg := fun z9 => W _ _ _ _ _ _ _ _ _ _ _ _ _ _ _ (F0 m 19 ls (.int z9 :: _))) ?_ (fun t9 f9 => lv_if_ne (tgt := 18) hx hb dX2_isSameAs_11 (by decide) (fun c_x => lv_iconst (v := (0 : Int32)) hx hb dX2_isSameAs_18 (by decide) (f9 c_x)) (fun c_x => lv_iconst (v := (1 : Int32)) hx hb dX2_isSameAs_14 (by decide) (lv_goto (tgt := 19) hx hb dX2_isSameAs_15 (by decide) (t9 c_x))))
  refine wcVi (as := [.int (fX2_isNone p0), .int (if (fX2_isFrom (0 : Int32) (4 : Int32) p1) = 0 then (1 : Int32) else (0 : Int32))]) (rest := []) (cl := RX2) C (c_X2_refuses l G b T (fX2_isNone p0) (if (fX2_isFrom (0 : Int32) (4 : Int32) p1) = 0 then (1 : Int32) else (0 : Int32))) F_X2_refuses rfl bw1219 bw1221 bw33 (hE.S hS hAB) hP hD hS hA hAB (va_recv hE.K hP (ci := 4) (q0 := 0) rfl rfl) hl.1 dX2_isSameAs_19 ⟨Nat.le_of_ble_eq_true rfl, Nat.le_of_ble_eq_true rfl⟩ rfl (Nat.le_of_ble_eq_true rfl) ⟨Nat.le_of_ble_eq_true rfl, Nat.le_of_ble_eq_true rfl⟩ (fun H locs hP hD hS => ?_)
  have hP : va_P (gD G) vwCl (wM G b ((fth (fX2_isNone p0) (if (fX2_isFrom (0 : Int32) (4 : Int32) p1) = 0 then (1 : Int32) else (0 : Int32))), (my T), (mm T), (md T), (mt T), (T.2.2.2.2.2))) H := hP
  have hD : va_D A (wM G b ((fth (fX2_isNone p0) (if (fX2_isFrom (0 : Int32) (4 : Int32) p1) = 0 then (1 : Int32) else (0 : Int32))), (my T), (mm T), (md T), (mt T), (T.2.2.2.2.2))) := hD
  refine lv_if_ne (tgt := 34) hx hb dX2_isSameAs_22 (by decide) (fun c_1 => ?_) (fun c_1 => ?_)
  · have c_1 := rf_n c_1
    refine lv_iconst (v := (0 : Int32)) hx hb dX2_isSameAs_34 (by decide) ?_
    exact we_z (ty := .boolean) (wf := wM G b) hx hb hr hk (by decide) hP hD hS (Nat.le_of_ble_eq_true rfl) (Nat.le_of_ble_eq_true rfl) dX2_isSameAs_35 (if_neg c_1)
  · have c_1 := rf_p c_1
    refine lv_iload_n hx hb dX2_isSameAs_25 rfl (lv_at hl 2 rfl) ?_
    refine lv_iconst (v := (2 : Int32)) hx hb dX2_isSameAs_26 (by decide) ?_
    refine lv_icmp_le (tgt := 34) hx hb dX2_isSameAs_27 (by decide) (fun c_2 => ?_) (fun c_2 => ?_)
    · refine lv_iconst (v := (0 : Int32)) hx hb dX2_isSameAs_34 (by decide) ?_
      exact we_z (ty := .boolean) (wf := wM G b) hx hb hr hk (by decide) hP hD hS (Nat.le_of_ble_eq_true rfl) (Nat.le_of_ble_eq_true rfl) dX2_isSameAs_35 (Eq.trans (if_pos c_1) (if_pos c_2))
    · refine lv_iconst (v := (1 : Int32)) hx hb dX2_isSameAs_30 (by decide) ?_
      refine lv_goto (tgt := 35) hx hb dX2_isSameAs_31 (by decide) ?_
      exact we_z (ty := .boolean) (wf := wM G b) hx hb hr hk (by decide) hP hD hS (Nat.le_of_ble_eq_true rfl) (Nat.le_of_ble_eq_true rfl) dX2_isSameAs_35 (Eq.trans (if_pos c_1) (if_neg c_2))

set_option maxRecDepth 100000 in
set_option maxHeartbeats 4000000 in
theorem c_X2_house (l : Launch) (G : GT) (b : Nat → Nat) (T : SM) (p0 : Int32) (hT : MO T) : WR l G yX2_house cX2_house 2 (some .int) 12 0 0 [.ref (b 0), .int p0] (wM G b T) (wM G b (gX2_house T p0).2) (some (.int (gX2_house T p0).1)) := by
  refine WR.ofW (own := RX2) rfl (by decide +kernel) (Nat.le_of_ble_eq_true rfl) ?_
  intro p e s m below meth c A C hr hk hnm hE hP hD hA hAB hS ls hl
  have hx := C.1
  have hb := C.2.1
  have hown := C.2.2.2.1
  have hw := C.2.2.2.2
  have hl : lv_has ls 2 [(0, .ref (b 0)), (1, .int p0)] := hl
  refine lv_aload_n hx hb dX2_house_0 rfl (lv_at hl 0 rfl) ?_
  refine lv_iconst (v := (0 : Int32)) hx hb dX2_house_1 (by decide) ?_
  refine lv_iconst (v := (5 : Int32)) hx hb dX2_house_2 (by decide) ?_
  refine lv_iload_n hx hb dX2_house_3 rfl (lv_at hl 1 rfl) ?_
  refine rcSi (as := [.int (0 : Int32), .int (5 : Int32), .int p0]) (rest := [.ref (b 0)]) C (c_X2_isFrom l G (0 : Int32) (5 : Int32) p0) F_X2_isFrom rfl bw1208 bw1209 (hE.S hS hAB) vpn hl.1 dX2_house_4 ⟨Nat.le_of_ble_eq_true rfl, Nat.le_of_ble_eq_true rfl⟩ rfl (Nat.le_of_ble_eq_true rfl) ⟨Nat.le_of_ble_eq_true rfl, Nat.le_of_ble_eq_true rfl⟩ ?_
  refine k_dia (b := (fX2_isFrom (0 : Int32) (5 : Int32) p0) = 0) (x := (1 : Int32)) (y := (0 : Int32)) (Wg := fun z9 => W _ _ _ _ _ _ _ _ _ _ _ _ _ _ _ (F0 m 15 ls (.int z9 :: _))) ?_ (fun t9 f9 => lv_if_eq (tgt := 14) hx hb dX2_house_7 (by decide) (fun c_x => lv_iconst (v := (1 : Int32)) hx hb dX2_house_14 (by decide) (t9 c_x)) (fun c_x => lv_iconst (v := (0 : Int32)) hx hb dX2_house_10 (by decide) (lv_goto (tgt := 15) hx hb dX2_house_11 (by decide) (f9 c_x))))
  refine va_put (D := gD G) (cl := vwCl) (tys := gT G) (ci := 4) (v := .int (if (fX2_isFrom (0 : Int32) (5 : Int32) p0) = 0 then (1 : Int32) else (0 : Int32))) (ty := .int) (C := RX2) (T := TX2) (N := 12) hx hb hw inB_X2 tyX2 tyX2_ok nmX2 hown hE.K hP hD hS 0 rfl rfl 0 (by decide) (hw _ bw1163) (fun _ h9 => h9) rfl (by decide +kernel) rfl rfl (Nat.le_of_ble_eq_true rfl) dX2_house_15 (fun H locs hP hD hS => ?_)
  have hP : va_P (gD G) vwCl (wM G b ((if (fX2_isFrom (0 : Int32) (5 : Int32) p0) = 0 then (1 : Int32) else (0 : Int32)), (my T), (mm T), (md T), (mt T), (T.2.2.2.2.2))) H := hP
  have hD : va_D A (wM G b ((if (fX2_isFrom (0 : Int32) (5 : Int32) p0) = 0 then (1 : Int32) else (0 : Int32)), (my T), (mm T), (md T), (mt T), (T.2.2.2.2.2))) := hD
  refine lv_aload_n hx hb dX2_house_18 rfl (lv_at hl 0 rfl) ?_
  refine va_get (D := gD G) (cl := vwCl) (tys := gT G) (ci := 4) (v := .int (if (fX2_isFrom (0 : Int32) (5 : Int32) p0) = 0 then (1 : Int32) else (0 : Int32))) (C := RX2) (T := TX2) (N := 12) hx hb hw inB_X2 hown hE.K hP 0 rfl rfl 0 (by decide) (hw _ bw1163) (fun _ h9 => h9) rfl dX2_house_19 ?_
  refine lv_if_le (tgt := 29) hx hb dX2_house_22 (by decide) (fun c_1 => ?_) (fun c_1 => ?_)
  · refine lv_aload_n hx hb dX2_house_29 rfl (lv_at hl 0 rfl) ?_
    refine lv_iload_n hx hb dX2_house_30 rfl (lv_at hl 1 rfl) ?_
    refine rcVi (as := [.int p0]) (rest := []) (cl := RX2) C (c_X2_houseNow l G b ((if (fX2_isFrom (0 : Int32) (5 : Int32) p0) = 0 then (1 : Int32) else (0 : Int32)), (my T), (mm T), (md T), (mt T), (T.2.2.2.2.2)) p0 (MO.same hT rfl)) F_X2_houseNow rfl bw1604 bw1606 bw53 (hE.S hS hAB) hP (va_recv hE.K hP (ci := 4) (q0 := 0) rfl rfl) hl.1 dX2_house_31 ⟨Nat.le_of_ble_eq_true rfl, Nat.le_of_ble_eq_true rfl⟩ rfl (Nat.le_of_ble_eq_true rfl) ⟨Nat.le_of_ble_eq_true rfl, Nat.le_of_ble_eq_true rfl⟩ ?_
    exact we_i (wf := wM G b) hx hb hr hk hP hD hS (Nat.le_of_ble_eq_true rfl) (Nat.le_of_ble_eq_true rfl) dX2_house_34 (if_pos c_1)
  · refine lv_iconst (v := (0 : Int32)) hx hb dX2_house_25 (by decide) ?_
    refine lv_goto (tgt := 34) hx hb dX2_house_26 (by decide) ?_
    exact we_i (wf := wM G b) hx hb hr hk hP hD hS (Nat.le_of_ble_eq_true rfl) (Nat.le_of_ble_eq_true rfl) dX2_house_34 (if_neg c_1)

set_option maxRecDepth 100000 in
set_option maxHeartbeats 4000000 in
theorem c_X2_knock (l : Launch) (G : GT) (b : Nat → Nat) (T : SM) (hT : MO T) : WR l G yX2_knock cX2_knock 1 (some .int) 12 0 0 [.ref (b 0)] (wM G b T) (wM G b (gX2_knock T).2) (some (.int (gX2_knock T).1)) := by
  refine WR.ofW (own := RX2) rfl (by decide +kernel) (Nat.le_of_ble_eq_true rfl) ?_
  intro p e s m below meth c A C hr hk hnm hE hP hD hA hAB hS ls hl
  have hx := C.1
  have hb := C.2.1
  have hown := C.2.2.2.1
  have hw := C.2.2.2.2
  have hl : lv_has ls 1 [(0, .ref (b 0))] := hl
  refine lv_aload_n hx hb dX2_knock_0 rfl (lv_at hl 0 rfl) ?_
  refine lv_iconst (v := (0 : Int32)) hx hb dX2_knock_1 (by decide) ?_
  refine va_put (D := gD G) (cl := vwCl) (tys := gT G) (ci := 4) (v := .int (0 : Int32)) (ty := .int) (C := RX2) (T := TX2) (N := 12) hx hb hw inB_X2 tyX2 tyX2_ok nmX2 hown hE.K hP hD hS 0 rfl rfl 0 (by decide) (hw _ bw1163) (fun _ h9 => h9) rfl (by decide +kernel) rfl rfl (Nat.le_of_ble_eq_true rfl) dX2_knock_2 (fun H locs hP hD hS => ?_)
  have hP : va_P (gD G) vwCl (wM G b ((0 : Int32), (my T), (mm T), (md T), (mt T), (T.2.2.2.2.2))) H := hP
  have hD : va_D A (wM G b ((0 : Int32), (my T), (mm T), (md T), (mt T), (T.2.2.2.2.2))) := hD
  refine lv_aload_n hx hb dX2_knock_5 rfl (lv_at hl 0 rfl) ?_
  refine lv_dup hx hb dX2_knock_6 rfl ?_
  refine va_get (D := gD G) (cl := vwCl) (tys := gT G) (ci := 4) (v := .int (mi T 6)) (C := RX2) (T := TX2) (N := 12) hx hb hw inB_X2 hown hE.K hP 0 rfl rfl 11 (by decide) (hw _ bw1174) (fun _ h9 => h9) rfl dX2_knock_7 ?_
  refine lv_iconst (v := (1 : Int32)) hx hb dX2_knock_10 (by decide) ?_
  refine lv_iadd hx hb dX2_knock_11 ?_
  refine lv_dup_x1 hx hb dX2_knock_12 rfl rfl ?_
  refine va_put (D := gD G) (cl := vwCl) (tys := gT G) (ci := 4) (v := .int ((mi T 6) + (1 : Int32))) (ty := .int) (C := RX2) (T := TX2) (N := 12) hx hb hw inB_X2 tyX2 tyX2_ok nmX2 hown hE.K hP hD hS 0 rfl rfl 11 (by decide) (hw _ bw1174) (fun _ h9 => h9) rfl (by decide +kernel) rfl rfl (Nat.le_of_ble_eq_true rfl) dX2_knock_13 (fun H locs hP hD hS => ?_)
  have hP : va_P (gD G) vwCl (wM G b ((0 : Int32), (my T), (mm T), (md T), (mt T), (upd (T.2.2.2.2.2) 6 ((mi T 6) + (1 : Int32))))) H := hP
  have hD : va_D A (wM G b ((0 : Int32), (my T), (mm T), (md T), (mt T), (upd (T.2.2.2.2.2) 6 ((mi T 6) + (1 : Int32))))) := hD
  exact we_i (wf := wM G b) hx hb hr hk hP hD hS (Nat.le_of_ble_eq_true rfl) (Nat.le_of_ble_eq_true rfl) dX2_knock_16 rfl

set_option maxRecDepth 100000 in
set_option maxHeartbeats 4000000 in
theorem c_X2_isSound (l : Launch) (G : GT) (b : Nat → Nat) (T : SM) (hT : MO T) : WR l G yX2_isSound cX2_isSound 1 (some .boolean) 12 0 0 [.ref (b 0)] (wM G b T) (wM G b (gX2_isSound T).2) (some (.int (gX2_isSound T).1)) := by
  refine WR.ofW (own := RX2) rfl (by decide +kernel) (Nat.le_of_ble_eq_true rfl) ?_
  intro p e s m below meth c A C hr hk hnm hE hP hD hA hAB hS ls hl
  have hx := C.1
  have hb := C.2.1
  have hown := C.2.2.2.1
  have hw := C.2.2.2.2
  have hl : lv_has ls 1 [(0, .ref (b 0))] := hl
  refine lv_aload_n hx hb dX2_isSound_0 rfl (lv_at hl 0 rfl) ?_
  refine lv_iconst (v := (0 : Int32)) hx hb dX2_isSound_1 (by decide) ?_
  refine va_put (D := gD G) (cl := vwCl) (tys := gT G) (ci := 4) (v := .int (0 : Int32)) (ty := .int) (C := RX2) (T := TX2) (N := 12) hx hb hw inB_X2 tyX2 tyX2_ok nmX2 hown hE.K hP hD hS 0 rfl rfl 0 (by decide) (hw _ bw1163) (fun _ h9 => h9) rfl (by decide +kernel) rfl rfl (Nat.le_of_ble_eq_true rfl) dX2_isSound_2 (fun H locs hP hD hS => ?_)
  have hP : va_P (gD G) vwCl (wM G b ((0 : Int32), (my T), (mm T), (md T), (mt T), (T.2.2.2.2.2))) H := hP
  have hD : va_D A (wM G b ((0 : Int32), (my T), (mm T), (md T), (mt T), (T.2.2.2.2.2))) := hD
  refine lv_iconst (v := (1 : Int32)) hx hb dX2_isSound_5 (by decide) ?_
  exact we_z (ty := .boolean) (wf := wM G b) hx hb hr hk (by decide) hP hD hS (Nat.le_of_ble_eq_true rfl) (Nat.le_of_ble_eq_true rfl) dX2_isSound_6 rfl
