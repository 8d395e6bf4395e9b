set_option maxRecDepth 100000 in
set_option maxHeartbeats 4000000 in
theorem c_X2_become (l : Launch) (G : GT) (b : Nat → Nat) (T : SM) (p0 : Int32) (p1 : Int32) (p2 : Int32) (p3 : Int32) (p4 : Int64) (h0 : vp_in p0 6) (hT : MO T) (hm : p2 ≤ (12 : Int32)) : WR l G yX2_become cX2_become 7 (some .int) 7 0 0 [.ref (b 0), .int p0, .int p1, .int p2, .int p3, .long p4] (wM G b T) (wM G b (gX2_become T p0 p1 p2 p3 p4).2) (some (.int (gX2_become T p0 p1 p2 p3 p4).1)) := by
  refine WR.ofW (own := RX2) rfl (by decide +kernel) (Nat.le_of_ble_eq_true rfl) ?_
  intro p e s m below meth c A C hr hk hnm hE hP hD hA hAB hS ls hl
  have hx := C.1
  have hb := C.2.1
  have hown := C.2.2.2.1
  have hw := C.2.2.2.2
  have hl : lv_has ls 7 [(0, .ref (b 0)), (1, .int p0), (2, .int p1), (3, .int p2), (4, .int p3), (5, .long p4)] := hl
  refine lv_aload_n hx hb dX2_become_0 rfl (lv_at hl 0 rfl) ?_
  refine va_get (D := gD G) (cl := vwCl) (tys := gT G) (ci := 4) (v := .ref (b 1)) (C := RX2) (T := TX2) (N := 12) hx hb hw inB_X2 hown hE.K hP 0 rfl rfl 1 (by decide) (hw _ bw1164) (fun _ h9 => h9) rfl dX2_become_1 ?_
  refine lv_iload_n hx hb dX2_become_4 rfl (lv_at hl 1 rfl) ?_
  refine lv_iload_n hx hb dX2_become_5 rfl (lv_at hl 2 rfl) ?_
  refine va_iast (tys := gT G) hx hb hE.K hP hD hS 1 0 rfl rfl h0 dX2_become_6 (fun H locs hP hD hS => ?_)
  have hP : va_P (gD G) vwCl (wM G b ((mth T), (upd (my T) p0.toNatClampNeg p1), (mm T), (md T), (mt T), (T.2.2.2.2.2))) H := hP
  have hD : va_D A (wM G b ((mth T), (upd (my T) p0.toNatClampNeg p1), (mm T), (md T), (mt T), (T.2.2.2.2.2))) := hD
  refine lv_aload_n hx hb dX2_become_7 rfl (lv_at hl 0 rfl) ?_
  refine va_get (D := gD G) (cl := vwCl) (tys := gT G) (ci := 4) (v := .ref (b 2)) (C := RX2) (T := TX2) (N := 12) hx hb hw inB_X2 hown hE.K hP 0 rfl rfl 2 (by decide) (hw _ bw1165) (fun _ h9 => h9) rfl dX2_become_8 ?_
  refine lv_iload_n hx hb dX2_become_11 rfl (lv_at hl 1 rfl) ?_
  refine lv_iload_n hx hb dX2_become_12 rfl (lv_at hl 3 rfl) ?_
  refine va_iast (tys := gT G) hx hb hE.K hP hD hS 2 0 rfl rfl h0 dX2_become_13 (fun H locs hP hD hS => ?_)
  have hP : va_P (gD G) vwCl (wM G b ((mth T), (upd (my T) p0.toNatClampNeg p1), (upd (mm T) p0.toNatClampNeg p2), (md T), (mt T), (T.2.2.2.2.2))) H := hP
  have hD : va_D A (wM G b ((mth T), (upd (my T) p0.toNatClampNeg p1), (upd (mm T) p0.toNatClampNeg p2), (md T), (mt T), (T.2.2.2.2.2))) := hD
  refine lv_aload_n hx hb dX2_become_14 rfl (lv_at hl 0 rfl) ?_
  refine va_get (D := gD G) (cl := vwCl) (tys := gT G) (ci := 4) (v := .ref (b 3)) (C := RX2) (T := TX2) (N := 12) hx hb hw inB_X2 hown hE.K hP 0 rfl rfl 3 (by decide) (hw _ bw1166) (fun _ h9 => h9) rfl dX2_become_15 ?_
  refine lv_iload_n hx hb dX2_become_18 rfl (lv_at hl 1 rfl) ?_
  refine lv_iload hx hb dX2_become_19 (lv_at hl 4 rfl) ?_
  refine va_iast (tys := gT G) hx hb hE.K hP hD hS 3 0 rfl rfl h0 dX2_become_21 (fun H locs hP hD hS => ?_)
  have hP : va_P (gD G) vwCl (wM G b ((mth T), (upd (my T) p0.toNatClampNeg p1), (upd (mm T) p0.toNatClampNeg p2), (upd (md T) p0.toNatClampNeg p3), (mt T), (T.2.2.2.2.2))) H := hP
  have hD : va_D A (wM G b ((mth T), (upd (my T) p0.toNatClampNeg p1), (upd (mm T) p0.toNatClampNeg p2), (upd (md T) p0.toNatClampNeg p3), (mt T), (T.2.2.2.2.2))) := hD
  refine lv_aload_n hx hb dX2_become_22 rfl (lv_at hl 0 rfl) ?_
  refine va_get (D := gD G) (cl := vwCl) (tys := gT G) (ci := 4) (v := .ref (b 4)) (C := RX2) (T := TX2) (N := 12) hx hb hw inB_X2 hown hE.K hP 0 rfl rfl 4 (by decide) (hw _ bw1167) (fun _ h9 => h9) rfl dX2_become_23 ?_
  refine lv_iload_n hx hb dX2_become_26 rfl (lv_at hl 1 rfl) ?_
  refine lv_lload hx hb dX2_become_27 (lv_at hl 5 rfl) ?_
  refine va_last (tys := gT G) hx hb hE.K hP hD hS 4 1 rfl rfl h0 dX2_become_29 (fun H locs hP hD hS => ?_)
  have hP : va_P (gD G) vwCl (wM G b ((mth T), (upd (my T) p0.toNatClampNeg p1), (upd (mm T) p0.toNatClampNeg p2), (upd (md T) p0.toNatClampNeg p3), (vp_updL (mt T) p0.toNatClampNeg p4), (T.2.2.2.2.2))) H := hP
  have hD : va_D A (wM G b ((mth T), (upd (my T) p0.toNatClampNeg p1), (upd (mm T) p0.toNatClampNeg p2), (upd (md T) p0.toNatClampNeg p3), (vp_updL (mt T) p0.toNatClampNeg p4), (T.2.2.2.2.2))) := hD
  refine lv_aload_n hx hb dX2_become_30 rfl (lv_at hl 0 rfl) ?_
  refine lv_dup hx hb dX2_become_31 rfl ?_
  refine va_get (D := gD G) (cl := vwCl) (tys := gT G) (ci := 4) (v := .int (mi T 4)) (C := RX2) (T := TX2) (N := 12) hx hb hw inB_X2 hown hE.K hP 0 rfl rfl 9 (by decide) (hw _ bw1172) (fun _ h9 => h9) rfl dX2_become_32 ?_
  refine lv_iconst (v := (1 : Int32)) hx hb dX2_become_35 (by decide) ?_
  refine lv_iadd hx hb dX2_become_36 ?_
  refine va_put (D := gD G) (cl := vwCl) (tys := gT G) (ci := 4) (v := .int ((mi T 4) + (1 : Int32))) (ty := .int) (C := RX2) (T := TX2) (N := 12) hx hb hw inB_X2 tyX2 tyX2_ok nmX2 hown hE.K hP hD hS 0 rfl rfl 9 (by decide) (hw _ bw1172) (fun _ h9 => h9) rfl (by decide +kernel) rfl rfl (Nat.le_of_ble_eq_true rfl) dX2_become_37 (fun H locs hP hD hS => ?_)
  have hP : va_P (gD G) vwCl (wM G b ((mth T), (upd (my T) p0.toNatClampNeg p1), (upd (mm T) p0.toNatClampNeg p2), (upd (md T) p0.toNatClampNeg p3), (vp_updL (mt T) p0.toNatClampNeg p4), (upd (T.2.2.2.2.2) 4 ((mi T 4) + (1 : Int32))))) H := hP
  have hD : va_D A (wM G b ((mth T), (upd (my T) p0.toNatClampNeg p1), (upd (mm T) p0.toNatClampNeg p2), (upd (md T) p0.toNatClampNeg p3), (vp_updL (mt T) p0.toNatClampNeg p4), (upd (T.2.2.2.2.2) 4 ((mi T 4) + (1 : Int32))))) := hD
  refine lv_aload_n hx hb dX2_become_40 rfl (lv_at hl 0 rfl) ?_
  refine lv_iload_n hx hb dX2_become_41 rfl (lv_at hl 1 rfl) ?_
  refine rcVi (as := [.int p0]) (rest := []) (cl := RX2) C (c_X2_weekDayNow l G b ((mth T), (upd (my T) p0.toNatClampNeg p1), (upd (mm T) p0.toNatClampNeg p2), (upd (md T) p0.toNatClampNeg p3), (vp_updL (mt T) p0.toNatClampNeg p4), (upd (T.2.2.2.2.2) 4 ((mi T 4) + (1 : Int32)))) p0 h0 (MO.upd hT hm rfl)) F_X2_weekDayNow rfl bw1243 bw1245 bw37 (hE.S hS hAB) hP (va_recv hE.K hP (ci := 4) (q0 := 0) rfl rfl) hl.1 dX2_become_42 ⟨Nat.le_of_ble_eq_true rfl, Nat.le_of_ble_eq_true rfl⟩ rfl (Nat.le_of_ble_eq_true rfl) ⟨Nat.le_of_ble_eq_true rfl, Nat.le_of_ble_eq_true rfl⟩ ?_
  exact we_i (wf := wM G b) hx hb hr hk hP hD hS (Nat.le_of_ble_eq_true rfl) (Nat.le_of_ble_eq_true rfl) dX2_become_45 rfl

set_option maxRecDepth 100000 in
set_option maxHeartbeats 4000000 in
theorem c_X2_becomeDay (l : Launch) (G : GT) (b : Nat → Nat) (T : SM) (p0 : Int32) (p1 : Int64) (p2 : Int64) (h0 : vp_in p0 6) (hT : MO T) : WR l G yX2_becomeDay cX2_becomeDay 7 (some .int) 8 1 3 [.ref (b 0), .int p0, .long p1, .long p2] (wM G b T) (wM G b (gX2_becomeDay T p0 p1 p2).2) (some (.int (gX2_becomeDay T p0 p1 p2).1)) := by
  refine WR.ofW (own := RX2) rfl (by decide +kernel) (Nat.le_of_ble_eq_true rfl) ?_
  intro p e s m below meth c A C hr hk hnm hE hP hD hA hAB hS ls hl
  have hx := C.1
  have hb := C.2.1
  have hown := C.2.2.2.1
  have hw := C.2.2.2.2
  have hl : lv_has ls 7 [(0, .ref (b 0)), (1, .int p0), (2, .long p1), (4, .long p2)] := hl
  refine lv_lload_n hx hb dX2_becomeDay_0 rfl (lv_at hl 2 rfl) ?_
  refine lv_sipush (v := (-9999 : Int32)) hx hb dX2_becomeDay_1 (by decide) ?_
  refine lv_iconst (v := (1 : Int32)) hx hb dX2_becomeDay_4 (by decide) ?_
  refine lv_iconst (v := (1 : Int32)) hx hb dX2_becomeDay_5 (by decide) ?_
  refine rcSl (as := [.int (-9999 : Int32), .int (1 : Int32), .int (1 : Int32)]) (rest := [.long p1]) C (c_X2_dayOf l G (-9999 : Int32) (1 : Int32) (1 : Int32) (by decide)) F_X2_dayOf rfl bw1251 bw1252 (hE.S hS hAB) vpn hl.1 dX2_becomeDay_6 ⟨Nat.le_of_ble_eq_true rfl, Nat.le_of_ble_eq_true rfl⟩ rfl (Nat.le_of_ble_eq_true rfl) ⟨Nat.le_of_ble_eq_true rfl, Nat.le_of_ble_eq_true rfl⟩ ?_
  refine W.lcmp hx hb dX2_becomeDay_9 ?_
  refine lv_if_lt (tgt := 28) hx hb dX2_becomeDay_10 (by decide) (fun c_1 => ?_) (fun c_1 => ?_)
  · refine lv_aload_n hx hb dX2_becomeDay_28 rfl (lv_at hl 0 rfl) ?_
    refine wcVi (as := []) (rest := []) (cl := RX2) C (c_X2_refuse l G b T) F_X2_refuse rfl bw1229 bw1231 bw34 (hE.S hS hAB) hP hD hS hA hAB (va_recv hE.K hP (ci := 4) (q0 := 0) rfl rfl) hl.1 dX2_becomeDay_29 ⟨Nat.le_of_ble_eq_true rfl, Nat.le_of_ble_eq_true rfl⟩ rfl (Nat.le_of_ble_eq_true rfl) ⟨Nat.le_of_ble_eq_true rfl, Nat.le_of_ble_eq_true rfl⟩ (fun H locs hP hD hS => ?_)
    exact we_i (wf := wM G b) hx hb hr hk hP hD hS (Nat.le_of_ble_eq_true rfl) (Nat.le_of_ble_eq_true rfl) dX2_becomeDay_32 (if_pos c_1)
  · refine lv_lload_n hx hb dX2_becomeDay_13 rfl (lv_at hl 2 rfl) ?_
    refine lv_sipush (v := (9999 : Int32)) hx hb dX2_becomeDay_14 (by decide) ?_
    refine lv_bipush (v := (12 : Int32)) hx hb dX2_becomeDay_17 (by decide) ?_
    refine lv_bipush (v := (31 : Int32)) hx hb dX2_becomeDay_19 (by decide) ?_
    refine rcSl (as := [.int (9999 : Int32), .int (12 : Int32), .int (31 : Int32)]) (rest := [.long p1]) C (c_X2_dayOf l G (9999 : Int32) (12 : Int32) (31 : Int32) (by decide)) F_X2_dayOf rfl bw1251 bw1252 (hE.S hS hAB) vpn hl.1 dX2_becomeDay_21 ⟨Nat.le_of_ble_eq_true rfl, Nat.le_of_ble_eq_true rfl⟩ rfl (Nat.le_of_ble_eq_true rfl) ⟨Nat.le_of_ble_eq_true rfl, Nat.le_of_ble_eq_true rfl⟩ ?_
    refine W.lcmp hx hb dX2_becomeDay_24 ?_
    refine lv_if_le (tgt := 33) hx hb dX2_becomeDay_25 (by decide) (fun c_2 => ?_) (fun c_2 => ?_)
    · refine lv_lload_n hx hb dX2_becomeDay_33 rfl (lv_at hl 2 rfl) ?_
      refine mkS (as := [.long p1]) (rest := []) C (c_X2_dateOf l G p1 (fuelY p1) (fuelM p1) _ _ _ _ (dOK c_1 c_2).1 (dE1 _) (dOK c_1 c_2).2.1 (dE2 _)) F_X2_dateOf rfl bw1285 bw1286 (hE.S hS hAB) vpn hP hS hA hl.1 dX2_becomeDay_34 ⟨Nat.le_of_ble_eq_true rfl, Nat.le_of_ble_eq_true rfl⟩ rfl (Nat.le_of_ble_eq_true rfl) ⟨Nat.le_of_ble_eq_true rfl, Nat.le_of_ble_eq_true rfl⟩ (fun qd H locs ho _ hP hPq hS => ?_)
      refine lv_astore (lv' := [(6, .ref qd), (0, .ref (b 0)), (1, .int p0), (2, .long p1), (4, .long p2)]) hx hb dX2_becomeDay_37 hl (Nat.le_of_ble_eq_true rfl) rfl (fun ls hl => ?_)
      refine lv_aload_n hx hb dX2_becomeDay_39 rfl (lv_at hl 1 rfl) ?_
      refine lv_iload_n hx hb dX2_becomeDay_40 rfl (lv_at hl 2 rfl) ?_
      refine lv_aload hx hb dX2_becomeDay_41 (lv_at hl 0 rfl) ?_
      refine lv_iconst (v := (0 : Int32)) hx hb dX2_becomeDay_43 (by decide) ?_
      refine va_iald (D := gD G) (cl := vwCl) (tys := gT G) hx hb hE.K hPq 0 0 rfl rfl (vp_in_lit 0) dX2_becomeDay_44 ?_
      refine k_foldi (y := (fX2_dy p1)) (row3_0 _ _ _) ?_
      refine lv_aload hx hb dX2_becomeDay_45 (lv_at hl 0 rfl) ?_
      refine lv_iconst (v := (1 : Int32)) hx hb dX2_becomeDay_47 (by decide) ?_
      refine va_iald (D := gD G) (cl := vwCl) (tys := gT G) hx hb hE.K hPq 0 0 rfl rfl (vp_in_lit 1) dX2_becomeDay_48 ?_
      refine k_foldi (y := (fX2_dm p1)) (row3_1 _ _ _) ?_
      refine lv_aload hx hb dX2_becomeDay_49 (lv_at hl 0 rfl) ?_
      refine lv_iconst (v := (2 : Int32)) hx hb dX2_becomeDay_51 (by decide) ?_
      refine va_iald (D := gD G) (cl := vwCl) (tys := gT G) hx hb hE.K hPq 0 0 rfl rfl (vp_in_lit 2) dX2_becomeDay_52 ?_
      refine k_foldi (y := ((dR2 p1).toInt32 + 1)) (row3_2 _ _ _) ?_
      refine lv_lload hx hb dX2_becomeDay_53 (lv_at hl 4 rfl) ?_
      refine wcVi (as := [.int p0, .int (fX2_dy p1), .int (fX2_dm p1), .int ((dR2 p1).toInt32 + 1), .long p2]) (rest := []) (cl := RX2) C (c_X2_become l G b T p0 (fX2_dy p1) (fX2_dm p1) ((dR2 p1).toInt32 + 1) p2 h0 hT (dOK c_1 c_2).2.2) F_X2_become rfl bw1239 bw1241 bw36 (hE.S hS hAB) hP hD hS hA hAB (va_recv hE.K hP (ci := 4) (q0 := 0) rfl rfl) hl.1 dX2_becomeDay_55 ⟨Nat.le_of_ble_eq_true rfl, Nat.le_of_ble_eq_true rfl⟩ rfl (Nat.le_of_ble_eq_true rfl) ⟨Nat.le_of_ble_eq_true rfl, Nat.le_of_ble_eq_true rfl⟩ (fun H locs hP hD hS => ?_)
      exact we_i (wf := wM G b) hx hb hr hk hP hD hS (Nat.le_of_ble_eq_true rfl) (Nat.le_of_ble_eq_true rfl) dX2_becomeDay_58 (Eq.trans (if_neg c_1) (if_pos c_2))
    · refine lv_aload_n hx hb dX2_becomeDay_28 rfl (lv_at hl 0 rfl) ?_
      refine wcVi (as := []) (rest := []) (cl := RX2) C (c_X2_refuse l G b T) F_X2_refuse rfl bw1229 bw1231 bw34 (hE.S hS hAB) hP hD hS hA hAB (va_recv hE.K hP (ci := 4) (q0 := 0) rfl rfl) hl.1 dX2_becomeDay_29 ⟨Nat.le_of_ble_eq_true rfl, Nat.le_of_ble_eq_true rfl⟩ rfl (Nat.le_of_ble_eq_true rfl) ⟨Nat.le_of_ble_eq_true rfl, Nat.le_of_ble_eq_true rfl⟩ (fun H locs hP hD hS => ?_)
      exact we_i (wf := wM G b) hx hb hr hk hP hD hS (Nat.le_of_ble_eq_true rfl) (Nat.le_of_ble_eq_true rfl) dX2_becomeDay_32 (Eq.trans (if_neg c_1) (if_neg c_2))

set_option maxRecDepth 100000 in
set_option maxHeartbeats 4000000 in
theorem c_X2_becomeMonth (l : Launch) (G : GT) (b : Nat → Nat) (T : SM) (p0 : Int32) (p1 : Int64) (p2 : Int32) (h0 : vp_in p0 6) (hT : MO T) (hm : p2 ≤ (12 : Int32)) : WR l G yX2_becomeMonth cX2_becomeMonth 5 (some .int) 8 0 0 [.ref (b 0), .int p0, .long p1, .int p2] (wM G b T) (wM G b (gX2_becomeMonth T p0 p1 p2).2) (some (.int (gX2_becomeMonth T p0 p1 p2).1)) := by
  refine WR.ofW (own := RX2) rfl (by decide +kernel) (Nat.le_of_ble_eq_true rfl) ?_
  intro p e s m below meth c A C hr hk hnm hE hP hD hA hAB hS ls hl
  have hx := C.1
  have hb := C.2.1
  have hown := C.2.2.2.1
  have hw := C.2.2.2.2
  have hl : lv_has ls 5 [(0, .ref (b 0)), (1, .int p0), (2, .long p1), (4, .int p2)] := hl
  refine lv_lload_n hx hb dX2_becomeMonth_0 rfl (lv_at hl 2 rfl) ?_
  refine lv_ldc2 (v := (-9999 : Int64)) hx hb hown (hw _ bw1312) dX2_becomeMonth_1 ?_
  refine W.lcmp hx hb dX2_becomeMonth_4 ?_
  refine lv_if_lt (tgt := 16) hx hb dX2_becomeMonth_5 (by decide) (fun c_1 => ?_) (fun c_1 => ?_)
  · refine lv_aload_n hx hb dX2_becomeMonth_16 rfl (lv_at hl 0 rfl) ?_
    refine wcVi (as := []) (rest := []) (cl := RX2) C (c_X2_refuse l G b T) F_X2_refuse rfl bw1229 bw1231 bw34 (hE.S hS hAB) hP hD hS hA hAB (va_recv hE.K hP (ci := 4) (q0 := 0) rfl rfl) hl.1 dX2_becomeMonth_17 ⟨Nat.le_of_ble_eq_true rfl, Nat.le_of_ble_eq_true rfl⟩ rfl (Nat.le_of_ble_eq_true rfl) ⟨Nat.le_of_ble_eq_true rfl, Nat.le_of_ble_eq_true rfl⟩ (fun H locs hP hD hS => ?_)
    exact we_i (wf := wM G b) hx hb hr hk hP hD hS (Nat.le_of_ble_eq_true rfl) (Nat.le_of_ble_eq_true rfl) dX2_becomeMonth_20 (if_pos c_1)
  · refine lv_lload_n hx hb dX2_becomeMonth_8 rfl (lv_at hl 2 rfl) ?_
    refine lv_ldc2 (v := (9999 : Int64)) hx hb hown (hw _ bw1313) dX2_becomeMonth_9 ?_
    refine W.lcmp hx hb dX2_becomeMonth_12 ?_
    refine lv_if_le (tgt := 21) hx hb dX2_becomeMonth_13 (by decide) (fun c_2 => ?_) (fun c_2 => ?_)
    · refine lv_aload_n hx hb dX2_becomeMonth_21 rfl (lv_at hl 0 rfl) ?_
      refine lv_iload_n hx hb dX2_becomeMonth_22 rfl (lv_at hl 1 rfl) ?_
      refine lv_lload_n hx hb dX2_becomeMonth_23 rfl (lv_at hl 2 rfl) ?_
      refine lv_l2i (v := (p1.toInt32)) hx hb dX2_becomeMonth_24 (by first | rfl | decide) ?_
      refine lv_iload hx hb dX2_becomeMonth_25 (lv_at hl 3 rfl) ?_
      refine lv_aload_n hx hb dX2_becomeMonth_27 rfl (lv_at hl 0 rfl) ?_
      refine va_get (D := gD G) (cl := vwCl) (tys := gT G) (ci := 4) (v := .ref (b 3)) (C := RX2) (T := TX2) (N := 12) hx hb hw inB_X2 hown hE.K hP 0 rfl rfl 3 (by decide) (hw _ bw1166) (fun _ h9 => h9) rfl dX2_becomeMonth_28 ?_
      refine lv_iload_n hx hb dX2_becomeMonth_31 rfl (lv_at hl 1 rfl) ?_
      refine va_iald (tys := gT G) hx hb hE.K hP 3 0 rfl rfl h0 dX2_becomeMonth_32 ?_
      refine lv_lload_n hx hb dX2_becomeMonth_33 rfl (lv_at hl 2 rfl) ?_
      refine lv_l2i (v := (p1.toInt32)) hx hb dX2_becomeMonth_34 (by first | rfl | decide) ?_
      refine lv_iload hx hb dX2_becomeMonth_35 (lv_at hl 3 rfl) ?_
      refine rcSi (as := [.int (p1.toInt32), .int p2]) (rest := [.int ((md T) p0.toNatClampNeg), .int p2, .int (p1.toInt32), .int p0, .ref (b 0)]) C (c_X2_daysOf l G (p1.toInt32) p2) F_X2_daysOf rfl bw1223 bw1224 (hE.S hS hAB) vpn hl.1 dX2_becomeMonth_37 ⟨Nat.le_of_ble_eq_true rfl, Nat.le_of_ble_eq_true rfl⟩ rfl (Nat.le_of_ble_eq_true rfl) ⟨Nat.le_of_ble_eq_true rfl, Nat.le_of_ble_eq_true rfl⟩ ?_
      refine rcSi (as := [.int ((md T) p0.toNatClampNeg), .int (fX2_daysOf (p1.toInt32) p2)]) (rest := [.int p2, .int (p1.toInt32), .int p0, .ref (b 0)]) C (c_J9_min_7cf53 l G ((md T) p0.toNatClampNeg) (fX2_daysOf (p1.toInt32) p2)) F_J9_min_7cf53 rfl bw1314 bw214 (hE.S hS hAB) vpn hl.1 dX2_becomeMonth_40 ⟨Nat.le_of_ble_eq_true rfl, Nat.le_of_ble_eq_true rfl⟩ rfl (Nat.le_of_ble_eq_true rfl) ⟨Nat.le_of_ble_eq_true rfl, Nat.le_of_ble_eq_true rfl⟩ ?_
      refine lv_aload_n hx hb dX2_becomeMonth_43 rfl (lv_at hl 0 rfl) ?_
      refine va_get (D := gD G) (cl := vwCl) (tys := gT G) (ci := 4) (v := .ref (b 4)) (C := RX2) (T := TX2) (N := 12) hx hb hw inB_X2 hown hE.K hP 0 rfl rfl 4 (by decide) (hw _ bw1167) (fun _ h9 => h9) rfl dX2_becomeMonth_44 ?_
      refine lv_iload_n hx hb dX2_becomeMonth_47 rfl (lv_at hl 1 rfl) ?_
      refine va_lald (tys := gT G) hx hb hE.K hP 4 1 rfl rfl h0 dX2_becomeMonth_48 ?_
      refine wcVi (as := [.int p0, .int (p1.toInt32), .int p2, .int (fJ9_min_7cf53 ((md T) p0.toNatClampNeg) (fX2_daysOf (p1.toInt32) p2)), .long ((mt T) p0.toNatClampNeg)]) (rest := []) (cl := RX2) C (c_X2_become l G b T p0 (p1.toInt32) p2 (fJ9_min_7cf53 ((md T) p0.toNatClampNeg) (fX2_daysOf (p1.toInt32) p2)) ((mt T) p0.toNatClampNeg) h0 hT hm) F_X2_become rfl bw1239 bw1241 bw36 (hE.S hS hAB) hP hD hS hA hAB (va_recv hE.K hP (ci := 4) (q0 := 0) rfl rfl) hl.1 dX2_becomeMonth_49 ⟨Nat.le_of_ble_eq_true rfl, Nat.le_of_ble_eq_true rfl⟩ rfl (Nat.le_of_ble_eq_true rfl) ⟨Nat.le_of_ble_eq_true rfl, Nat.le_of_ble_eq_true rfl⟩ (fun H locs hP hD hS => ?_)
      exact we_i (wf := wM G b) hx hb hr hk hP hD hS (Nat.le_of_ble_eq_true rfl) (Nat.le_of_ble_eq_true rfl) dX2_becomeMonth_52 (Eq.trans (if_neg c_1) (if_pos c_2))
    · refine lv_aload_n hx hb dX2_becomeMonth_16 rfl (lv_at hl 0 rfl) ?_
      refine wcVi (as := []) (rest := []) (cl := RX2) C (c_X2_refuse l G b T) F_X2_refuse rfl bw1229 bw1231 bw34 (hE.S hS hAB) hP hD hS hA hAB (va_recv hE.K hP (ci := 4) (q0 := 0) rfl rfl) hl.1 dX2_becomeMonth_17 ⟨Nat.le_of_ble_eq_true rfl, Nat.le_of_ble_eq_true rfl⟩ rfl (Nat.le_of_ble_eq_true rfl) ⟨Nat.le_of_ble_eq_true rfl, Nat.le_of_ble_eq_true rfl⟩ (fun H locs hP hD hS => ?_)
      exact we_i (wf := wM G b) hx hb hr hk hP hD hS (Nat.le_of_ble_eq_true rfl) (Nat.le_of_ble_eq_true rfl) dX2_becomeMonth_20 (Eq.trans (if_neg c_1) (if_neg c_2))

