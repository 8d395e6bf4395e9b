set_option maxRecDepth 100000 in
set_option maxHeartbeats 4000000 in
theorem c_X0_refuse (l : Launch) (G : GT) (a : Nat → Nat) (S : SX) : WR l G yX0_refuse cX0_refuse 1 (some .int) 1 0 0 [.ref (a 0)] (wX G a S) (wX G a (gX0_refuse S).2) (some (.int (gX0_refuse S).1)) := by
  refine WR.ofW (own := RX0) rfl (plainFor_of_name pnN_RX0) (Nat.le_of_ble_eq_true rfl) ?_
  intro p e s m below meth c A C hr hk hnm hE hP hD hA hAB hS ls hl
  have hx := C.1
  have hb := C.2.1
  have hown := C.2.2.2.1
  have hw := C.2.2.2.2
  have hl : lv_has ls 1 [(0, .ref (a 0))] := hl
  refine lv_aload_n hx hb dX0_refuse_0 rfl (lv_at hl 0 rfl) ?_
  refine lv_dup hx hb dX0_refuse_1 rfl ?_
  refine va_get (D := gD G) (cl := vwCl) (tys := gT G) (ci := 2) (v := .int (xi S 5)) (C := RX0) (T := TX0) (N := 12) hx hb hw inB_X0 hown hE.K hP 0 rfl rfl 10 (by decide) (hw _ bw104) (fun _ h9 => h9) rfl dX0_refuse_2 ?_
  refine lv_iconst (v := (1 : Int32)) hx hb dX0_refuse_5 qi_1 ?_
  refine lv_iadd hx hb dX0_refuse_6 ?_
  refine va_put (D := gD G) (cl := vwCl) (tys := gT G) (ci := 2) (v := .int ((xi S 5) + (1 : Int32))) (ty := .int) (C := RX0) (T := TX0) (N := 12) hx hb hw inB_X0 tyX0 tyX0_ok nmX0 hown hE.K hP hD hS 0 rfl rfl 10 (by decide) (hw _ bw104) (fun _ h9 => h9) rfl (by decide +kernel) rfl rfl (Nat.le_of_ble_eq_true rfl) dX0_refuse_7 (fun H locs hP hD hS => ?_)
  have hP : va_P (gD G) vwCl (wX G a ((xy S), (xm S), (xd S), (xD S), (xN S), (upd (S.2.2.2.2.2) 5 ((xi S 5) + (1 : Int32))))) H := hP
  have hD : va_D A (wX G a ((xy S), (xm S), (xd S), (xD S), (xN S), (upd (S.2.2.2.2.2) 5 ((xi S 5) + (1 : Int32))))) := hD
  refine lv_bipush (v := (-9 : Int32)) hx hb dX0_refuse_10 qb_m9 ?_
  exact we_i (wf := wX G a) hx hb hr hk hP hD hS (Nat.le_of_ble_eq_true rfl) (Nat.le_of_ble_eq_true rfl) dX0_refuse_12 rfl

set_option maxRecDepth 100000 in
set_option maxHeartbeats 4000000 in
theorem c_X0_becomeDate (l : Launch) (G : GT) (a : Nat → Nat) (S : SX) (p0 : Int32) (p1 : Int32) (p2 : Int32) (p3 : Int32) (p4 : Int64) (h0 : vp_in p0 6) : WR l G yX0_becomeDate cX0_becomeDate 7 (some .int) 4 0 0 [.ref (a 0), .int p0, .int p1, .int p2, .int p3, .long p4] (wX G a S) (wX G a (gX0_becomeDate S p0 p1 p2 p3 p4).2) (some (.int (gX0_becomeDate S p0 p1 p2 p3 p4).1)) := by
  refine WR.ofW (own := RX0) rfl (plainFor_of_name pnN_RX0) (Nat.le_of_ble_eq_true rfl) ?_
  intro p e s m below meth c A C hr hk hnm hE hP hD hA hAB hS ls hl
  have hx := C.1
  have hb := C.2.1
  have hown := C.2.2.2.1
  have hw := C.2.2.2.2
  have hl : lv_has ls 7 [(0, .ref (a 0)), (1, .int p0), (2, .int p1), (3, .int p2), (4, .int p3), (5, .long p4)] := hl
  refine lv_iload hx hb dX0_becomeDate_0 (lv_at hl 4 rfl) ?_
  refine lv_iload_n hx hb dX0_becomeDate_2 rfl (lv_at hl 2 rfl) ?_
  refine lv_iload_n hx hb dX0_becomeDate_3 rfl (lv_at hl 3 rfl) ?_
  refine rcSi (as := [.int p1, .int p2]) (rest := [.int p3]) C (c_X0_monthLength l G p1 p2) F_X0_monthLength rfl bw210 bw211 (hE.S hS hAB) vpn hl.1 dX0_becomeDate_4 ⟨Nat.le_of_ble_eq_true rfl, Nat.le_of_ble_eq_true rfl⟩ rfl (Nat.le_of_ble_eq_true rfl) ⟨Nat.le_of_ble_eq_true rfl, Nat.le_of_ble_eq_true rfl⟩ ?_
  refine lv_icmp_le (tgt := 15) hx hb dX0_becomeDate_7 (by decide) (fun c_1 => ?_) (fun c_1 => ?_)
  · refine lv_aload_n hx hb dX0_becomeDate_15 rfl (lv_at hl 0 rfl) ?_
    refine va_get (D := gD G) (cl := vwCl) (tys := gT G) (ci := 2) (v := .ref (a 1)) (C := RX0) (T := TX0) (N := 12) hx hb hw inB_X0 hown hE.K hP 0 rfl rfl 0 (by decide) (hw _ bw94) (fun _ h9 => h9) rfl dX0_becomeDate_16 ?_
    refine lv_iload_n hx hb dX0_becomeDate_19 rfl (lv_at hl 1 rfl) ?_
    refine lv_iload_n hx hb dX0_becomeDate_20 rfl (lv_at hl 2 rfl) ?_
    refine va_iast (tys := gT G) hx hb hE.K hP hD hS 1 0 rfl rfl h0 dX0_becomeDate_21 (fun H locs hP hD hS => ?_)
    have hP : va_P (gD G) vwCl (wX G a ((upd (xy S) p0.toNatClampNeg p1), (xm S), (xd S), (xD S), (xN S), (S.2.2.2.2.2))) H := hP
    have hD : va_D A (wX G a ((upd (xy S) p0.toNatClampNeg p1), (xm S), (xd S), (xD S), (xN S), (S.2.2.2.2.2))) := hD
    refine lv_aload_n hx hb dX0_becomeDate_22 rfl (lv_at hl 0 rfl) ?_
    refine va_get (D := gD G) (cl := vwCl) (tys := gT G) (ci := 2) (v := .ref (a 2)) (C := RX0) (T := TX0) (N := 12) hx hb hw inB_X0 hown hE.K hP 0 rfl rfl 1 (by decide) (hw _ bw95) (fun _ h9 => h9) rfl dX0_becomeDate_23 ?_
    refine lv_iload_n hx hb dX0_becomeDate_26 rfl (lv_at hl 1 rfl) ?_
    refine lv_iload_n hx hb dX0_becomeDate_27 rfl (lv_at hl 3 rfl) ?_
    refine va_iast (tys := gT G) hx hb hE.K hP hD hS 2 0 rfl rfl h0 dX0_becomeDate_28 (fun H locs hP hD hS => ?_)
    have hP : va_P (gD G) vwCl (wX G a ((upd (xy S) p0.toNatClampNeg p1), (upd (xm S) p0.toNatClampNeg p2), (xd S), (xD S), (xN S), (S.2.2.2.2.2))) H := hP
    have hD : va_D A (wX G a ((upd (xy S) p0.toNatClampNeg p1), (upd (xm S) p0.toNatClampNeg p2), (xd S), (xD S), (xN S), (S.2.2.2.2.2))) := hD
    refine lv_aload_n hx hb dX0_becomeDate_29 rfl (lv_at hl 0 rfl) ?_
    refine va_get (D := gD G) (cl := vwCl) (tys := gT G) (ci := 2) (v := .ref (a 3)) (C := RX0) (T := TX0) (N := 12) hx hb hw inB_X0 hown hE.K hP 0 rfl rfl 2 (by decide) (hw _ bw96) (fun _ h9 => h9) rfl dX0_becomeDate_30 ?_
    refine lv_iload_n hx hb dX0_becomeDate_33 rfl (lv_at hl 1 rfl) ?_
    refine lv_iload hx hb dX0_becomeDate_34 (lv_at hl 4 rfl) ?_
    refine va_iast (tys := gT G) hx hb hE.K hP hD hS 3 0 rfl rfl h0 dX0_becomeDate_36 (fun H locs hP hD hS => ?_)
    have hP : va_P (gD G) vwCl (wX G a ((upd (xy S) p0.toNatClampNeg p1), (upd (xm S) p0.toNatClampNeg p2), (upd (xd S) p0.toNatClampNeg p3), (xD S), (xN S), (S.2.2.2.2.2))) H := hP
    have hD : va_D A (wX G a ((upd (xy S) p0.toNatClampNeg p1), (upd (xm S) p0.toNatClampNeg p2), (upd (xd S) p0.toNatClampNeg p3), (xD S), (xN S), (S.2.2.2.2.2))) := hD
    refine lv_aload_n hx hb dX0_becomeDate_37 rfl (lv_at hl 0 rfl) ?_
    refine va_get (D := gD G) (cl := vwCl) (tys := gT G) (ci := 2) (v := .ref (a 4)) (C := RX0) (T := TX0) (N := 12) hx hb hw inB_X0 hown hE.K hP 0 rfl rfl 3 (by decide) (hw _ bw97) (fun _ h9 => h9) rfl dX0_becomeDate_38 ?_
    refine lv_iload_n hx hb dX0_becomeDate_41 rfl (lv_at hl 1 rfl) ?_
    refine lv_iload_n hx hb dX0_becomeDate_42 rfl (lv_at hl 2 rfl) ?_
    refine lv_iload_n hx hb dX0_becomeDate_43 rfl (lv_at hl 3 rfl) ?_
    refine lv_iload hx hb dX0_becomeDate_44 (lv_at hl 4 rfl) ?_
    refine rcSl (as := [.int p1, .int p2, .int p3]) (rest := [.int p0, .ref (a 4)]) C (c_X0_dayOf l G p1 p2 p3) F_X0_dayOf rfl bw167 bw168 (hE.S hS hAB) vpn hl.1 dX0_becomeDate_46 ⟨Nat.le_of_ble_eq_true rfl, Nat.le_of_ble_eq_true rfl⟩ rfl (Nat.le_of_ble_eq_true rfl) ⟨Nat.le_of_ble_eq_true rfl, Nat.le_of_ble_eq_true rfl⟩ ?_
    refine va_last (tys := gT G) hx hb hE.K hP hD hS 4 1 rfl rfl h0 dX0_becomeDate_49 (fun H locs hP hD hS => ?_)
    have hP : va_P (gD G) vwCl (wX G a ((upd (xy S) p0.toNatClampNeg p1), (upd (xm S) p0.toNatClampNeg p2), (upd (xd S) p0.toNatClampNeg p3), (vp_updL (xD S) p0.toNatClampNeg (fX0_dayOf p1 p2 p3)), (xN S), (S.2.2.2.2.2))) H := hP
    have hD : va_D A (wX G a ((upd (xy S) p0.toNatClampNeg p1), (upd (xm S) p0.toNatClampNeg p2), (upd (xd S) p0.toNatClampNeg p3), (vp_updL (xD S) p0.toNatClampNeg (fX0_dayOf p1 p2 p3)), (xN S), (S.2.2.2.2.2))) := hD
    refine lv_aload_n hx hb dX0_becomeDate_50 rfl (lv_at hl 0 rfl) ?_
    refine va_get (D := gD G) (cl := vwCl) (tys := gT G) (ci := 2) (v := .ref (a 5)) (C := RX0) (T := TX0) (N := 12) hx hb hw inB_X0 hown hE.K hP 0 rfl rfl 4 (by decide) (hw _ bw98) (fun _ h9 => h9) rfl dX0_becomeDate_51 ?_
    refine lv_iload_n hx hb dX0_becomeDate_54 rfl (lv_at hl 1 rfl) ?_
    refine lv_lload hx hb dX0_becomeDate_55 (lv_at hl 5 rfl) ?_
    refine va_last (tys := gT G) hx hb hE.K hP hD hS 5 1 rfl rfl h0 dX0_becomeDate_57 (fun H locs hP hD hS => ?_)
    have hP : va_P (gD G) vwCl (wX G a ((upd (xy S) p0.toNatClampNeg p1), (upd (xm S) p0.toNatClampNeg p2), (upd (xd S) p0.toNatClampNeg p3), (vp_updL (xD S) p0.toNatClampNeg (fX0_dayOf p1 p2 p3)), (vp_updL (xN S) p0.toNatClampNeg p4), (S.2.2.2.2.2))) H := hP
    have hD : va_D A (wX G a ((upd (xy S) p0.toNatClampNeg p1), (upd (xm S) p0.toNatClampNeg p2), (upd (xd S) p0.toNatClampNeg p3), (vp_updL (xD S) p0.toNatClampNeg (fX0_dayOf p1 p2 p3)), (vp_updL (xN S) p0.toNatClampNeg p4), (S.2.2.2.2.2))) := hD
    refine lv_aload_n hx hb dX0_becomeDate_58 rfl (lv_at hl 0 rfl) ?_
    refine lv_dup hx hb dX0_becomeDate_59 rfl ?_
    refine va_get (D := gD G) (cl := vwCl) (tys := gT G) (ci := 2) (v := .int (xi S 4)) (C := RX0) (T := TX0) (N := 12) hx hb hw inB_X0 hown hE.K hP 0 rfl rfl 9 (by decide) (hw _ bw103) (fun _ h9 => h9) rfl dX0_becomeDate_60 ?_
    refine lv_iconst (v := (1 : Int32)) hx hb dX0_becomeDate_63 qi_1 ?_
    refine lv_iadd hx hb dX0_becomeDate_64 ?_
    refine va_put (D := gD G) (cl := vwCl) (tys := gT G) (ci := 2) (v := .int ((xi S 4) + (1 : Int32))) (ty := .int) (C := RX0) (T := TX0) (N := 12) hx hb hw inB_X0 tyX0 tyX0_ok nmX0 hown hE.K hP hD hS 0 rfl rfl 9 (by decide) (hw _ bw103) (fun _ h9 => h9) rfl (by decide +kernel) rfl rfl (Nat.le_of_ble_eq_true rfl) dX0_becomeDate_65 (fun H locs hP hD hS => ?_)
    have hP : va_P (gD G) vwCl (wX G a ((upd (xy S) p0.toNatClampNeg p1), (upd (xm S) p0.toNatClampNeg p2), (upd (xd S) p0.toNatClampNeg p3), (vp_updL (xD S) p0.toNatClampNeg (fX0_dayOf p1 p2 p3)), (vp_updL (xN S) p0.toNatClampNeg p4), (upd (S.2.2.2.2.2) 4 ((xi S 4) + (1 : Int32))))) H := hP
    have hD : va_D A (wX G a ((upd (xy S) p0.toNatClampNeg p1), (upd (xm S) p0.toNatClampNeg p2), (upd (xd S) p0.toNatClampNeg p3), (vp_updL (xD S) p0.toNatClampNeg (fX0_dayOf p1 p2 p3)), (vp_updL (xN S) p0.toNatClampNeg p4), (upd (S.2.2.2.2.2) 4 ((xi S 4) + (1 : Int32))))) := hD
    refine lv_aload_n hx hb dX0_becomeDate_68 rfl (lv_at hl 0 rfl) ?_
    refine va_get (D := gD G) (cl := vwCl) (tys := gT G) (ci := 2) (v := .ref (a 4)) (C := RX0) (T := TX0) (N := 12) hx hb hw inB_X0 hown hE.K hP 0 rfl rfl 3 (by decide) (hw _ bw97) (fun _ h9 => h9) rfl dX0_becomeDate_69 ?_
    refine lv_iload_n hx hb dX0_becomeDate_72 rfl (lv_at hl 1 rfl) ?_
    refine va_lald (tys := gT G) hx hb hE.K hP 4 1 rfl rfl h0 dX0_becomeDate_73 ?_
    refine k_foldl (y := (fX0_dayOf p1 p2 p3)) pk_uLs ?_
    refine rcSi (as := [.long (fX0_dayOf p1 p2 p3)]) (rest := []) C (c_X0_weekday l G (fX0_dayOf p1 p2 p3)) F_X0_weekday rfl bw262 bw263 (hE.S hS hAB) vpn hl.1 dX0_becomeDate_74 ⟨Nat.le_of_ble_eq_true rfl, Nat.le_of_ble_eq_true rfl⟩ rfl (Nat.le_of_ble_eq_true rfl) ⟨Nat.le_of_ble_eq_true rfl, Nat.le_of_ble_eq_true rfl⟩ ?_
    exact we_i (wf := wX G a) hx hb hr hk hP hD hS (Nat.le_of_ble_eq_true rfl) (Nat.le_of_ble_eq_true rfl) dX0_becomeDate_77 (if_pos c_1)
  · refine lv_aload_n hx hb dX0_becomeDate_10 rfl (lv_at hl 0 rfl) ?_
    refine wcVi (as := []) (rest := []) (cl := RX0) C (c_X0_refuse l G a S) F_X0_refuse rfl bw414 bw416 bw20 (hE.S hS hAB) hP hD hS hA hAB (rv2 hE.K hP (q0 := 0) rfl) hl.1 dX0_becomeDate_11 ⟨Nat.le_of_ble_eq_true rfl, Nat.le_of_ble_eq_true rfl⟩ rfl (Nat.le_of_ble_eq_true rfl) ⟨Nat.le_of_ble_eq_true rfl, Nat.le_of_ble_eq_true rfl⟩ (fun H locs hP hD hS => ?_)
    exact we_i (wf := wX G a) hx hb hr hk hP hD hS (Nat.le_of_ble_eq_true rfl) (Nat.le_of_ble_eq_true rfl) dX0_becomeDate_14 (if_neg c_1)

set_option maxRecDepth 100000 in
set_option maxHeartbeats 4000000 in
theorem c_X0_becomeDay (l : Launch) (G : GT) (a : Nat → Nat) (S : SX) (p0 : Int32) (p1 : Int64) (p2 : Int64) (h0 : vp_in p0 6) : WR l G yX0_becomeDay cX0_becomeDay 9 (some .int) 5 0 0 [.ref (a 0), .int p0, .long p1, .long p2] (wX G a S) (wX G a (gX0_becomeDay S p0 p1 p2).2) (some (.int (gX0_becomeDay S p0 p1 p2).1)) := by
  refine WR.ofW (own := RX0) rfl (plainFor_of_name pnN_RX0) (Nat.le_of_ble_eq_true rfl) ?_
  intro p e s m below meth c A C hr hk hnm hE hP hD hA hAB hS ls hl
  have hx := C.1
  have hb := C.2.1
  have hown := C.2.2.2.1
  have hw := C.2.2.2.2
  have hl : lv_has ls 9 [(0, .ref (a 0)), (1, .int p0), (2, .long p1), (4, .long p2)] := hl
  refine lv_lload_n hx hb dX0_becomeDay_0 rfl (lv_at hl 2 rfl) ?_
  refine lv_ldc2 (v := (-4371587 : Int64)) hx hb hown (hw _ bw431) dX0_becomeDay_1 ?_
  refine W.lcmp hx hb dX0_becomeDay_4 ?_
  refine lv_if_lt (tgt := 16) hx hb dX0_becomeDay_5 (by decide) (fun c_1 => ?_) (fun c_1 => ?_)
  · refine lv_aload_n hx hb dX0_becomeDay_16 rfl (lv_at hl 0 rfl) ?_
    refine wcVi (as := []) (rest := []) (cl := RX0) C (c_X0_refuse l G a S) F_X0_refuse rfl bw414 bw416 bw20 (hE.S hS hAB) hP hD hS hA hAB (rv2 hE.K hP (q0 := 0) rfl) hl.1 dX0_becomeDay_17 ⟨Nat.le_of_ble_eq_true rfl, Nat.le_of_ble_eq_true rfl⟩ rfl (Nat.le_of_ble_eq_true rfl) ⟨Nat.le_of_ble_eq_true rfl, Nat.le_of_ble_eq_true rfl⟩ (fun H locs hP hD hS => ?_)
    exact we_i (wf := wX G a) hx hb hr hk hP hD hS (Nat.le_of_ble_eq_true rfl) (Nat.le_of_ble_eq_true rfl) dX0_becomeDay_20 (if_pos c_1)
  · refine lv_lload_n hx hb dX0_becomeDay_8 rfl (lv_at hl 2 rfl) ?_
    refine lv_ldc2 (v := (2932896 : Int64)) hx hb hown (hw _ bw194) dX0_becomeDay_9 ?_
    refine W.lcmp hx hb dX0_becomeDay_12 ?_
    refine lv_if_le (tgt := 21) hx hb dX0_becomeDay_13 (by decide) (fun c_2 => ?_) (fun c_2 => ?_)
    · refine lv_lload_n hx hb dX0_becomeDay_21 rfl (lv_at hl 2 rfl) ?_
      refine rcSi (as := [.long p1]) (rest := []) C (c_X0_yearOf l G p1) F_X0_yearOf rfl bw432 bw433 (hE.S hS hAB) vpn hl.1 dX0_becomeDay_22 ⟨Nat.le_of_ble_eq_true rfl, Nat.le_of_ble_eq_true rfl⟩ rfl (Nat.le_of_ble_eq_true rfl) ⟨Nat.le_of_ble_eq_true rfl, Nat.le_of_ble_eq_true rfl⟩ ?_
      refine lv_istore (lv' := [(6, .int (fX0_yearOf p1)), (0, .ref (a 0)), (1, .int p0), (2, .long p1), (4, .long p2)]) hx hb dX0_becomeDay_25 hl (Nat.le_of_ble_eq_true rfl) rfl (fun ls hl => ?_)
      refine lv_lload_n hx hb dX0_becomeDay_27 rfl (lv_at hl 3 rfl) ?_
      refine lv_iload hx hb dX0_becomeDay_28 (lv_at hl 0 rfl) ?_
      refine rcSl (as := [.int (fX0_yearOf p1)]) (rest := [.long p1]) C (c_X0_firstDayOf l G (fX0_yearOf p1)) F_X0_firstDayOf rfl bw86 bw87 (hE.S hS hAB) vpn hl.1 dX0_becomeDay_30 ⟨Nat.le_of_ble_eq_true rfl, Nat.le_of_ble_eq_true rfl⟩ rfl (Nat.le_of_ble_eq_true rfl) ⟨Nat.le_of_ble_eq_true rfl, Nat.le_of_ble_eq_true rfl⟩ ?_
      refine lv_lsub hx hb dX0_becomeDay_33 ?_
      refine lv_l2i (v := ((p1 - (fX0_firstDayOf (fX0_yearOf p1))).toInt32)) hx hb dX0_becomeDay_34 (by first | rfl | decide) ?_
      refine lv_iconst (v := (1 : Int32)) hx hb dX0_becomeDay_35 qi_1 ?_
      refine lv_iadd hx hb dX0_becomeDay_36 ?_
      refine lv_istore (lv' := [(7, .int (((p1 - (fX0_firstDayOf (fX0_yearOf p1))).toInt32) + (1 : Int32))), (6, .int (fX0_yearOf p1)), (0, .ref (a 0)), (1, .int p0), (2, .long p1), (4, .long p2)]) hx hb dX0_becomeDay_37 hl (Nat.le_of_ble_eq_true rfl) rfl (fun ls hl => ?_)
      refine lv_iload hx hb dX0_becomeDay_39 (lv_at hl 1 rfl) ?_
      refine lv_iload hx hb dX0_becomeDay_41 (lv_at hl 0 rfl) ?_
      refine rcSi (as := [.int (fX0_yearOf p1), .int (((p1 - (fX0_firstDayOf (fX0_yearOf p1))).toInt32) + (1 : Int32))]) (rest := []) C (c_X0_monthOf l G (fX0_yearOf p1) (((p1 - (fX0_firstDayOf (fX0_yearOf p1))).toInt32) + (1 : Int32))) F_X0_monthOf rfl bw436 bw437 (hE.S hS hAB) vpn hl.1 dX0_becomeDay_43 ⟨Nat.le_of_ble_eq_true rfl, Nat.le_of_ble_eq_true rfl⟩ rfl (Nat.le_of_ble_eq_true rfl) ⟨Nat.le_of_ble_eq_true rfl, Nat.le_of_ble_eq_true rfl⟩ ?_
      refine lv_istore (lv' := [(8, .int (fX0_monthOf (fX0_yearOf p1) (((p1 - (fX0_firstDayOf (fX0_yearOf p1))).toInt32) + (1 : Int32)))), (7, .int (((p1 - (fX0_firstDayOf (fX0_yearOf p1))).toInt32) + (1 : Int32))), (6, .int (fX0_yearOf p1)), (0, .ref (a 0)), (1, .int p0), (2, .long p1), (4, .long p2)]) hx hb dX0_becomeDay_46 hl (Nat.le_of_ble_eq_true rfl) rfl (fun ls hl => ?_)
      refine lv_aload_n hx hb dX0_becomeDay_48 rfl (lv_at hl 3 rfl) ?_
      refine lv_iload_n hx hb dX0_becomeDay_49 rfl (lv_at hl 4 rfl) ?_
      refine lv_iload hx hb dX0_becomeDay_50 (lv_at hl 2 rfl) ?_
      refine lv_iload hx hb dX0_becomeDay_52 (lv_at hl 0 rfl) ?_
      refine lv_iload hx hb dX0_becomeDay_54 (lv_at hl 1 rfl) ?_
      refine lv_iload hx hb dX0_becomeDay_56 (lv_at hl 2 rfl) ?_
      refine lv_iload hx hb dX0_becomeDay_58 (lv_at hl 0 rfl) ?_
      refine rcSi (as := [.int (fX0_yearOf p1), .int (fX0_monthOf (fX0_yearOf p1) (((p1 - (fX0_firstDayOf (fX0_yearOf p1))).toInt32) + (1 : Int32)))]) (rest := [.int (((p1 - (fX0_firstDayOf (fX0_yearOf p1))).toInt32) + (1 : Int32)), .int (fX0_monthOf (fX0_yearOf p1) (((p1 - (fX0_firstDayOf (fX0_yearOf p1))).toInt32) + (1 : Int32))), .int (fX0_yearOf p1), .int p0, .ref (a 0)]) C (c_X0_daysAhead l G (fX0_yearOf p1) (fX0_monthOf (fX0_yearOf p1) (((p1 - (fX0_firstDayOf (fX0_yearOf p1))).toInt32) + (1 : Int32)))) F_X0_daysAhead rfl bw170 bw171 (hE.S hS hAB) vpn hl.1 dX0_becomeDay_60 ⟨Nat.le_of_ble_eq_true rfl, Nat.le_of_ble_eq_true rfl⟩ rfl (Nat.le_of_ble_eq_true rfl) ⟨Nat.le_of_ble_eq_true rfl, Nat.le_of_ble_eq_true rfl⟩ ?_
      refine lv_isub hx hb dX0_becomeDay_63 ?_
      refine lv_lload hx hb dX0_becomeDay_64 (lv_at hl 6 rfl) ?_
      refine wcVi (as := [.int p0, .int (fX0_yearOf p1), .int (fX0_monthOf (fX0_yearOf p1) (((p1 - (fX0_firstDayOf (fX0_yearOf p1))).toInt32) + (1 : Int32))), .int ((((p1 - (fX0_firstDayOf (fX0_yearOf p1))).toInt32) + (1 : Int32)) - (fX0_daysAhead (fX0_yearOf p1) (fX0_monthOf (fX0_yearOf p1) (((p1 - (fX0_firstDayOf (fX0_yearOf p1))).toInt32) + (1 : Int32))))), .long p2]) (rest := []) (cl := RX0) C (c_X0_becomeDate l G a S p0 (fX0_yearOf p1) (fX0_monthOf (fX0_yearOf p1) (((p1 - (fX0_firstDayOf (fX0_yearOf p1))).toInt32) + (1 : Int32))) ((((p1 - (fX0_firstDayOf (fX0_yearOf p1))).toInt32) + (1 : Int32)) - (fX0_daysAhead (fX0_yearOf p1) (fX0_monthOf (fX0_yearOf p1) (((p1 - (fX0_firstDayOf (fX0_yearOf p1))).toInt32) + (1 : Int32))))) p2 h0) F_X0_becomeDate rfl bw410 bw412 bw19 (hE.S hS hAB) hP hD hS hA hAB (rv2 hE.K hP (q0 := 0) rfl) hl.1 dX0_becomeDay_66 ⟨Nat.le_of_ble_eq_true rfl, Nat.le_of_ble_eq_true rfl⟩ rfl (Nat.le_of_ble_eq_true rfl) ⟨Nat.le_of_ble_eq_true rfl, Nat.le_of_ble_eq_true rfl⟩ (fun H locs hP hD hS => ?_)
      exact we_i (wf := wX G a) hx hb hr hk hP hD hS (Nat.le_of_ble_eq_true rfl) (Nat.le_of_ble_eq_true rfl) dX0_becomeDay_69 (Eq.trans (if_neg c_1) (if_pos c_2))
    · refine lv_aload_n hx hb dX0_becomeDay_16 rfl (lv_at hl 0 rfl) ?_
      refine wcVi (as := []) (rest := []) (cl := RX0) C (c_X0_refuse l G a S) F_X0_refuse rfl bw414 bw416 bw20 (hE.S hS hAB) hP hD hS hA hAB (rv2 hE.K hP (q0 := 0) rfl) hl.1 dX0_becomeDay_17 ⟨Nat.le_of_ble_eq_true rfl, Nat.le_of_ble_eq_true rfl⟩ rfl (Nat.le_of_ble_eq_true rfl) ⟨Nat.le_of_ble_eq_true rfl, Nat.le_of_ble_eq_true rfl⟩ (fun H locs hP hD hS => ?_)
      exact we_i (wf := wX G a) hx hb hr hk hP hD hS (Nat.le_of_ble_eq_true rfl) (Nat.le_of_ble_eq_true rfl) dX0_becomeDay_20 (Eq.trans (if_neg c_1) (if_neg c_2))

set_option maxRecDepth 100000 in
set_option maxHeartbeats 4000000 in
theorem c_X0_becomeMonth (l : Launch) (G : GT) (a : Nat → Nat) (S : SX) (p0 : Int32) (p1 : Int32) (p2 : Int32) (h0 : vp_in p0 6) : WR l G yX0_becomeMonth cX0_becomeMonth 5 (some .int) 5 0 0 [.ref (a 0), .int p0, .int p1, .int p2] (wX G a S) (wX G a (gX0_becomeMonth S p0 p1 p2).2) (some (.int (gX0_becomeMonth S p0 p1 p2).1)) := by
  refine WR.ofW (own := RX0) rfl (plainFor_of_name pnN_RX0) (Nat.le_of_ble_eq_true rfl) ?_
  intro p e s m below meth c A C hr hk hnm hE hP hD hA hAB hS ls hl
  have hx := C.1
  have hb := C.2.1
  have hown := C.2.2.2.1
  have hw := C.2.2.2.2
  have hl : lv_has ls 5 [(0, .ref (a 0)), (1, .int p0), (2, .int p1), (3, .int p2)] := hl
  refine lv_aload_n hx hb dX0_becomeMonth_0 rfl (lv_at hl 0 rfl) ?_
  refine va_get (D := gD G) (cl := vwCl) (tys := gT G) (ci := 2) (v := .ref (a 3)) (C := RX0) (T := TX0) (N := 12) hx hb hw inB_X0 hown hE.K hP 0 rfl rfl 2 (by decide) (hw _ bw96) (fun _ h9 => h9) rfl dX0_becomeMonth_1 ?_
  refine lv_iload_n hx hb dX0_becomeMonth_4 rfl (lv_at hl 1 rfl) ?_
  refine va_iald (tys := gT G) hx hb hE.K hP 3 0 rfl rfl h0 dX0_becomeMonth_5 ?_
  refine lv_iload_n hx hb dX0_becomeMonth_6 rfl (lv_at hl 2 rfl) ?_
  refine lv_iload_n hx hb dX0_becomeMonth_7 rfl (lv_at hl 3 rfl) ?_
  refine rcSi (as := [.int p1, .int p2]) (rest := [.int ((xd S) p0.toNatClampNeg)]) C (c_X0_monthLength l G p1 p2) F_X0_monthLength rfl bw210 bw211 (hE.S hS hAB) vpn hl.1 dX0_becomeMonth_8 ⟨Nat.le_of_ble_eq_true rfl, Nat.le_of_ble_eq_true rfl⟩ rfl (Nat.le_of_ble_eq_true rfl) ⟨Nat.le_of_ble_eq_true rfl, Nat.le_of_ble_eq_true rfl⟩ ?_
  refine rcSi (as := [.int ((xd S) p0.toNatClampNeg), .int (fX0_monthLength p1 p2)]) (rest := []) C (c_J9_min_7cf53 l G ((xd S) p0.toNatClampNeg) (fX0_monthLength p1 p2)) F_J9_min_7cf53 rfl bw213 bw214 (hE.S hS hAB) vpn hl.1 dX0_becomeMonth_11 ⟨Nat.le_of_ble_eq_true rfl, Nat.le_of_ble_eq_true rfl⟩ rfl (Nat.le_of_ble_eq_true rfl) ⟨Nat.le_of_ble_eq_true rfl, Nat.le_of_ble_eq_true rfl⟩ ?_
  refine lv_istore (lv' := [(4, .int (fJ9_min_7cf53 ((xd S) p0.toNatClampNeg) (fX0_monthLength p1 p2))), (0, .ref (a 0)), (1, .int p0), (2, .int p1), (3, .int p2)]) hx hb dX0_becomeMonth_14 hl (Nat.le_of_ble_eq_true rfl) rfl (fun ls hl => ?_)
  refine lv_aload_n hx hb dX0_becomeMonth_16 rfl (lv_at hl 1 rfl) ?_
  refine lv_iload_n hx hb dX0_becomeMonth_17 rfl (lv_at hl 2 rfl) ?_
  refine lv_iload_n hx hb dX0_becomeMonth_18 rfl (lv_at hl 3 rfl) ?_
  refine lv_iload_n hx hb dX0_becomeMonth_19 rfl (lv_at hl 4 rfl) ?_
  refine lv_iload hx hb dX0_becomeMonth_20 (lv_at hl 0 rfl) ?_
  refine lv_aload_n hx hb dX0_becomeMonth_22 rfl (lv_at hl 1 rfl) ?_
  refine va_get (D := gD G) (cl := vwCl) (tys := gT G) (ci := 2) (v := .ref (a 5)) (C := RX0) (T := TX0) (N := 12) hx hb hw inB_X0 hown hE.K hP 0 rfl rfl 4 (by decide) (hw _ bw98) (fun _ h9 => h9) rfl dX0_becomeMonth_23 ?_
  refine lv_iload_n hx hb dX0_becomeMonth_26 rfl (lv_at hl 2 rfl) ?_
  refine va_lald (tys := gT G) hx hb hE.K hP 5 1 rfl rfl h0 dX0_becomeMonth_27 ?_
  refine wcVi (as := [.int p0, .int p1, .int p2, .int (fJ9_min_7cf53 ((xd S) p0.toNatClampNeg) (fX0_monthLength p1 p2)), .long ((xN S) p0.toNatClampNeg)]) (rest := []) (cl := RX0) C (c_X0_becomeDate l G a S p0 p1 p2 (fJ9_min_7cf53 ((xd S) p0.toNatClampNeg) (fX0_monthLength p1 p2)) ((xN S) p0.toNatClampNeg) h0) F_X0_becomeDate rfl bw410 bw412 bw19 (hE.S hS hAB) hP hD hS hA hAB (rv2 hE.K hP (q0 := 0) rfl) hl.1 dX0_becomeMonth_28 ⟨Nat.le_of_ble_eq_true rfl, Nat.le_of_ble_eq_true rfl⟩ rfl (Nat.le_of_ble_eq_true rfl) ⟨Nat.le_of_ble_eq_true rfl, Nat.le_of_ble_eq_true rfl⟩ (fun H locs hP hD hS => ?_)
  exact we_i (wf := wX G a) hx hb hr hk hP hD hS (Nat.le_of_ble_eq_true rfl) (Nat.le_of_ble_eq_true rfl) dX0_becomeMonth_31 rfl

set_option maxRecDepth 100000 in
set_option maxHeartbeats 4000000 in
theorem c_X0_becomeAs (l : Launch) (G : GT) (a : Nat → Nat) (S : SX) (p0 : Int32) (p1 : Int32) (p2 : Int64) (h0 : vp_in p0 6) (h1 : vp_in p1 6) : WR l G yX0_becomeAs cX0_becomeAs 5 (some .int) 5 0 0 [.ref (a 0), .int p0, .int p1, .long p2] (wX G a S) (wX G a (gX0_becomeAs S p0 p1 p2).2) (some (.int (gX0_becomeAs S p0 p1 p2).1)) := by
  refine WR.ofW (own := RX0) rfl (plainFor_of_name pnN_RX0) (Nat.le_of_ble_eq_true rfl) ?_
  intro p e s m below meth c A C hr hk hnm hE hP hD hA hAB hS ls hl
  have hx := C.1
  have hb := C.2.1
  have hown := C.2.2.2.1
  have hw := C.2.2.2.2
  have hl : lv_has ls 5 [(0, .ref (a 0)), (1, .int p0), (2, .int p1), (3, .long p2)] := hl
  refine lv_aload_n hx hb dX0_becomeAs_0 rfl (lv_at hl 0 rfl) ?_
  refine lv_iload_n hx hb dX0_becomeAs_1 rfl (lv_at hl 1 rfl) ?_
  refine lv_aload_n hx hb dX0_becomeAs_2 rfl (lv_at hl 0 rfl) ?_
  refine va_get (D := gD G) (cl := vwCl) (tys := gT G) (ci := 2) (v := .ref (a 1)) (C := RX0) (T := TX0) (N := 12) hx hb hw inB_X0 hown hE.K hP 0 rfl rfl 0 (by decide) (hw _ bw94) (fun _ h9 => h9) rfl dX0_becomeAs_3 ?_
  refine lv_iload_n hx hb dX0_becomeAs_6 rfl (lv_at hl 2 rfl) ?_
  refine va_iald (tys := gT G) hx hb hE.K hP 1 0 rfl rfl h1 dX0_becomeAs_7 ?_
  refine lv_aload_n hx hb dX0_becomeAs_8 rfl (lv_at hl 0 rfl) ?_
  refine va_get (D := gD G) (cl := vwCl) (tys := gT G) (ci := 2) (v := .ref (a 2)) (C := RX0) (T := TX0) (N := 12) hx hb hw inB_X0 hown hE.K hP 0 rfl rfl 1 (by decide) (hw _ bw95) (fun _ h9 => h9) rfl dX0_becomeAs_9 ?_
  refine lv_iload_n hx hb dX0_becomeAs_12 rfl (lv_at hl 2 rfl) ?_
  refine va_iald (tys := gT G) hx hb hE.K hP 2 0 rfl rfl h1 dX0_becomeAs_13 ?_
  refine lv_aload_n hx hb dX0_becomeAs_14 rfl (lv_at hl 0 rfl) ?_
  refine va_get (D := gD G) (cl := vwCl) (tys := gT G) (ci := 2) (v := .ref (a 3)) (C := RX0) (T := TX0) (N := 12) hx hb hw inB_X0 hown hE.K hP 0 rfl rfl 2 (by decide) (hw _ bw96) (fun _ h9 => h9) rfl dX0_becomeAs_15 ?_
  refine lv_iload_n hx hb dX0_becomeAs_18 rfl (lv_at hl 2 rfl) ?_
  refine va_iald (tys := gT G) hx hb hE.K hP 3 0 rfl rfl h1 dX0_becomeAs_19 ?_
  refine lv_lload_n hx hb dX0_becomeAs_20 rfl (lv_at hl 3 rfl) ?_
  refine wcVi (as := [.int p0, .int ((xy S) p1.toNatClampNeg), .int ((xm S) p1.toNatClampNeg), .int ((xd S) p1.toNatClampNeg), .long p2]) (rest := []) (cl := RX0) C (c_X0_becomeDate l G a S p0 ((xy S) p1.toNatClampNeg) ((xm S) p1.toNatClampNeg) ((xd S) p1.toNatClampNeg) p2 h0) F_X0_becomeDate rfl bw410 bw412 bw19 (hE.S hS hAB) hP hD hS hA hAB (rv2 hE.K hP (q0 := 0) rfl) hl.1 dX0_becomeAs_21 ⟨Nat.le_of_ble_eq_true rfl, Nat.le_of_ble_eq_true rfl⟩ rfl (Nat.le_of_ble_eq_true rfl) ⟨Nat.le_of_ble_eq_true rfl, Nat.le_of_ble_eq_true rfl⟩ (fun H locs hP hD hS => ?_)
  exact we_i (wf := wX G a) hx hb hr hk hP hD hS (Nat.le_of_ble_eq_true rfl) (Nat.le_of_ble_eq_true rfl) dX0_becomeAs_24 rfl

set_option maxRecDepth 100000 in
set_option maxHeartbeats 4000000 in
theorem c_X0_goMonths (l : Launch) (G : GT) (a : Nat → Nat) (S : SX) (p0 : Int32) (p1 : Int64) (h0 : vp_in p0 6) : WR l G yX0_goMonths cX0_goMonths 8 (some .int) 6 0 0 [.ref (a 0), .int p0, .long p1] (wX G a S) (wX G a (gX0_goMonths S p0 p1).2) (some (.int (gX0_goMonths S p0 p1).1)) := by
  refine WR.ofW (own := RX0) rfl (plainFor_of_name pnN_RX0) (Nat.le_of_ble_eq_true rfl) ?_
  intro p e s m below meth c A C hr hk hnm hE hP hD hA hAB hS ls hl
  have hx := C.1
  have hb := C.2.1
  have hown := C.2.2.2.1
  have hw := C.2.2.2.2
  have hl : lv_has ls 8 [(0, .ref (a 0)), (1, .int p0), (2, .long p1)] := hl
  refine lv_aload_n hx hb dX0_goMonths_0 rfl (lv_at hl 0 rfl) ?_
  refine lv_iload_n hx hb dX0_goMonths_1 rfl (lv_at hl 1 rfl) ?_
  refine rcVl (as := [.int p0]) (rest := []) (cl := RX0) C (c_X0_monthCount l G a S p0 h0) F_X0_monthCount rfl bw548 bw550 bw25 (hE.S hS hAB) hP (rv2 hE.K hP (q0 := 0) rfl) hl.1 dX0_goMonths_2 ⟨Nat.le_of_ble_eq_true rfl, Nat.le_of_ble_eq_true rfl⟩ rfl (Nat.le_of_ble_eq_true rfl) ⟨Nat.le_of_ble_eq_true rfl, Nat.le_of_ble_eq_true rfl⟩ ?_
  refine lv_lload_n hx hb dX0_goMonths_5 rfl (lv_at hl 2 rfl) ?_
  refine lv_ladd hx hb dX0_goMonths_6 ?_
  refine lv_lstore (lv' := [(4, .long ((fX0_monthCount S p0) + p1)), (0, .ref (a 0)), (1, .int p0), (2, .long p1)]) hx hb dX0_goMonths_7 hl (Nat.le_of_ble_eq_true rfl) rfl (fun ls hl => ?_)
  refine lv_lload hx hb dX0_goMonths_9 (lv_at hl 0 rfl) ?_
  refine lv_ldc2 (v := (12 : Int64)) hx hb hown (hw _ bw543) dX0_goMonths_11 ?_
  refine rcSl (as := [.long ((fX0_monthCount S p0) + p1), .long (12 : Int64)]) (rest := []) C (c_J9_floorDiv_f86c9 l G ((fX0_monthCount S p0) + p1) (12 : Int64) (by decide)) F_J9_floorDiv_f86c9 rfl bw191 bw192 (hE.S hS hAB) vpn hl.1 dX0_goMonths_14 ⟨Nat.le_of_ble_eq_true rfl, Nat.le_of_ble_eq_true rfl⟩ rfl (Nat.le_of_ble_eq_true rfl) ⟨Nat.le_of_ble_eq_true rfl, Nat.le_of_ble_eq_true rfl⟩ ?_
  refine lv_lstore (lv' := [(6, .long (fJ9_floorDiv_f86c9 ((fX0_monthCount S p0) + p1) (12 : Int64))), (4, .long ((fX0_monthCount S p0) + p1)), (0, .ref (a 0)), (1, .int p0), (2, .long p1)]) hx hb dX0_goMonths_17 hl (Nat.le_of_ble_eq_true rfl) rfl (fun ls hl => ?_)
  refine lv_lload hx hb dX0_goMonths_19 (lv_at hl 0 rfl) ?_
  refine lv_ldc2 (v := (-9999 : Int64)) hx hb hown (hw _ bw552) dX0_goMonths_21 ?_
  refine W.lcmp hx hb dX0_goMonths_24 ?_
  refine lv_if_lt (tgt := 37) hx hb dX0_goMonths_25 (by decide) (fun c_1 => ?_) (fun c_1 => ?_)
  · refine lv_aload_n hx hb dX0_goMonths_37 rfl (lv_at hl 2 rfl) ?_
    refine wcVi (as := []) (rest := []) (cl := RX0) C (c_X0_refuse l G a S) F_X0_refuse rfl bw414 bw416 bw20 (hE.S hS hAB) hP hD hS hA hAB (rv2 hE.K hP (q0 := 0) rfl) hl.1 dX0_goMonths_38 ⟨Nat.le_of_ble_eq_true rfl, Nat.le_of_ble_eq_true rfl⟩ rfl (Nat.le_of_ble_eq_true rfl) ⟨Nat.le_of_ble_eq_true rfl, Nat.le_of_ble_eq_true rfl⟩ (fun H locs hP hD hS => ?_)
    exact we_i (wf := wX G a) hx hb hr hk hP hD hS (Nat.le_of_ble_eq_true rfl) (Nat.le_of_ble_eq_true rfl) dX0_goMonths_41 (if_pos c_1)
  · refine lv_lload hx hb dX0_goMonths_28 (lv_at hl 0 rfl) ?_
    refine lv_ldc2 (v := (9999 : Int64)) hx hb hown (hw _ bw553) dX0_goMonths_30 ?_
    refine W.lcmp hx hb dX0_goMonths_33 ?_
    refine lv_if_le (tgt := 42) hx hb dX0_goMonths_34 (by decide) (fun c_2 => ?_) (fun c_2 => ?_)
    · refine lv_aload_n hx hb dX0_goMonths_42 rfl (lv_at hl 2 rfl) ?_
      refine lv_iload_n hx hb dX0_goMonths_43 rfl (lv_at hl 3 rfl) ?_
      refine lv_lload hx hb dX0_goMonths_44 (lv_at hl 0 rfl) ?_
      refine lv_l2i (v := ((fJ9_floorDiv_f86c9 ((fX0_monthCount S p0) + p1) (12 : Int64)).toInt32)) hx hb dX0_goMonths_46 (by first | rfl | decide) ?_
      refine lv_lload hx hb dX0_goMonths_47 (lv_at hl 1 rfl) ?_
      refine lv_ldc2 (v := (12 : Int64)) hx hb hown (hw _ bw543) dX0_goMonths_49 ?_
      refine rcSl (as := [.long ((fX0_monthCount S p0) + p1), .long (12 : Int64)]) (rest := [.int ((fJ9_floorDiv_f86c9 ((fX0_monthCount S p0) + p1) (12 : Int64)).toInt32), .int p0, .ref (a 0)]) C (c_J9_floorMod_f86c9 l G ((fX0_monthCount S p0) + p1) (12 : Int64) (by decide)) F_J9_floorMod_f86c9 rfl bw195 bw196 (hE.S hS hAB) vpn hl.1 dX0_goMonths_52 ⟨Nat.le_of_ble_eq_true rfl, Nat.le_of_ble_eq_true rfl⟩ rfl (Nat.le_of_ble_eq_true rfl) ⟨Nat.le_of_ble_eq_true rfl, Nat.le_of_ble_eq_true rfl⟩ ?_
      refine lv_l2i (v := ((fJ9_floorMod_f86c9 ((fX0_monthCount S p0) + p1) (12 : Int64)).toInt32)) hx hb dX0_goMonths_55 (by first | rfl | decide) ?_
      refine lv_iconst (v := (1 : Int32)) hx hb dX0_goMonths_56 qi_1 ?_
      refine lv_iadd hx hb dX0_goMonths_57 ?_
      refine wcVi (as := [.int p0, .int ((fJ9_floorDiv_f86c9 ((fX0_monthCount S p0) + p1) (12 : Int64)).toInt32), .int (((fJ9_floorMod_f86c9 ((fX0_monthCount S p0) + p1) (12 : Int64)).toInt32) + (1 : Int32))]) (rest := []) (cl := RX0) C (c_X0_becomeMonth l G a S p0 ((fJ9_floorDiv_f86c9 ((fX0_monthCount S p0) + p1) (12 : Int64)).toInt32) (((fJ9_floorMod_f86c9 ((fX0_monthCount S p0) + p1) (12 : Int64)).toInt32) + (1 : Int32)) h0) F_X0_becomeMonth rfl bw471 bw473 bw23 (hE.S hS hAB) hP hD hS hA hAB (rv2 hE.K hP (q0 := 0) rfl) hl.1 dX0_goMonths_58 ⟨Nat.le_of_ble_eq_true rfl, Nat.le_of_ble_eq_true rfl⟩ rfl (Nat.le_of_ble_eq_true rfl) ⟨Nat.le_of_ble_eq_true rfl, Nat.le_of_ble_eq_true rfl⟩ (fun H locs hP hD hS => ?_)
      exact we_i (wf := wX G a) hx hb hr hk hP hD hS (Nat.le_of_ble_eq_true rfl) (Nat.le_of_ble_eq_true rfl) dX0_goMonths_61 (Eq.trans (if_neg c_1) (if_pos c_2))
    · refine lv_aload_n hx hb dX0_goMonths_37 rfl (lv_at hl 2 rfl) ?_
      refine wcVi (as := []) (rest := []) (cl := RX0) C (c_X0_refuse l G a S) F_X0_refuse rfl bw414 bw416 bw20 (hE.S hS hAB) hP hD hS hA hAB (rv2 hE.K hP (q0 := 0) rfl) hl.1 dX0_goMonths_38 ⟨Nat.le_of_ble_eq_true rfl, Nat.le_of_ble_eq_true rfl⟩ rfl (Nat.le_of_ble_eq_true rfl) ⟨Nat.le_of_ble_eq_true rfl, Nat.le_of_ble_eq_true rfl⟩ (fun H locs hP hD hS => ?_)
      exact we_i (wf := wX G a) hx hb hr hk hP hD hS (Nat.le_of_ble_eq_true rfl) (Nat.le_of_ble_eq_true rfl) dX0_goMonths_41 (Eq.trans (if_neg c_1) (if_neg c_2))

set_option maxRecDepth 100000 in
set_option maxHeartbeats 4000000 in
theorem c_X0_goLine (l : Launch) (G : GT) (a : Nat → Nat) (S : SX) (p0 : Int32) (p1 : Int64) (p2 : Int64) (h0 : vp_in p0 6) : WR l G yX0_goLine cX0_goLine 10 (some .int) 6 0 0 [.ref (a 0), .int p0, .long p1, .long p2] (wX G a S) (wX G a (gX0_goLine S p0 p1 p2).2) (some (.int (gX0_goLine S p0 p1 p2).1)) := by
  refine WR.ofW (own := RX0) rfl (plainFor_of_name pnN_RX0) (Nat.le_of_ble_eq_true rfl) ?_
  intro p e s m below meth c A C hr hk hnm hE hP hD hA hAB hS ls hl
  have hx := C.1
  have hb := C.2.1
  have hown := C.2.2.2.1
  have hw := C.2.2.2.2
  have hl : lv_has ls 10 [(0, .ref (a 0)), (1, .int p0), (2, .long p1), (4, .long p2)] := hl
  refine lv_aload_n hx hb dX0_goLine_0 rfl (lv_at hl 0 rfl) ?_
  refine va_get (D := gD G) (cl := vwCl) (tys := gT G) (ci := 2) (v := .ref (a 5)) (C := RX0) (T := TX0) (N := 12) hx hb hw inB_X0 hown hE.K hP 0 rfl rfl 4 (by decide) (hw _ bw98) (fun _ h9 => h9) rfl dX0_goLine_1 ?_
  refine lv_iload_n hx hb dX0_goLine_4 rfl (lv_at hl 1 rfl) ?_
  refine va_lald (tys := gT G) hx hb hE.K hP 5 1 rfl rfl h0 dX0_goLine_5 ?_
  refine lv_lload hx hb dX0_goLine_6 (lv_at hl 3 rfl) ?_
  refine lv_ladd hx hb dX0_goLine_8 ?_
  refine lv_lstore (lv' := [(6, .long (((xN S) p0.toNatClampNeg) + p2)), (0, .ref (a 0)), (1, .int p0), (2, .long p1), (4, .long p2)]) hx hb dX0_goLine_9 hl (Nat.le_of_ble_eq_true rfl) rfl (fun ls hl => ?_)
  refine lv_aload_n hx hb dX0_goLine_11 rfl (lv_at hl 1 rfl) ?_
  refine va_get (D := gD G) (cl := vwCl) (tys := gT G) (ci := 2) (v := .ref (a 4)) (C := RX0) (T := TX0) (N := 12) hx hb hw inB_X0 hown hE.K hP 0 rfl rfl 3 (by decide) (hw _ bw97) (fun _ h9 => h9) rfl dX0_goLine_12 ?_
  refine lv_iload_n hx hb dX0_goLine_15 rfl (lv_at hl 2 rfl) ?_
  refine va_lald (tys := gT G) hx hb hE.K hP 4 1 rfl rfl h0 dX0_goLine_16 ?_
  refine lv_lload_n hx hb dX0_goLine_17 rfl (lv_at hl 3 rfl) ?_
  refine lv_ladd hx hb dX0_goLine_18 ?_
  refine lv_lload hx hb dX0_goLine_19 (lv_at hl 0 rfl) ?_
  refine lv_ldc2 (v := (86400000000000 : Int64)) hx hb hown (hw _ bw190) dX0_goLine_21 ?_
  refine rcSl (as := [.long (((xN S) p0.toNatClampNeg) + p2), .long (86400000000000 : Int64)]) (rest := [.long (((xD S) p0.toNatClampNeg) + p1)]) C (c_J9_floorDiv_f86c9 l G (((xN S) p0.toNatClampNeg) + p2) (86400000000000 : Int64) (by decide)) F_J9_floorDiv_f86c9 rfl bw191 bw192 (hE.S hS hAB) vpn hl.1 dX0_goLine_24 ⟨Nat.le_of_ble_eq_true rfl, Nat.le_of_ble_eq_true rfl⟩ rfl (Nat.le_of_ble_eq_true rfl) ⟨Nat.le_of_ble_eq_true rfl, Nat.le_of_ble_eq_true rfl⟩ ?_
  refine lv_ladd hx hb dX0_goLine_27 ?_
  refine lv_lstore (lv' := [(8, .long ((((xD S) p0.toNatClampNeg) + p1) + (fJ9_floorDiv_f86c9 (((xN S) p0.toNatClampNeg) + p2) (86400000000000 : Int64)))), (6, .long (((xN S) p0.toNatClampNeg) + p2)), (0, .ref (a 0)), (1, .int p0), (2, .long p1), (4, .long p2)]) hx hb dX0_goLine_28 hl (Nat.le_of_ble_eq_true rfl) rfl (fun ls hl => ?_)
  refine lv_aload_n hx hb dX0_goLine_30 rfl (lv_at hl 2 rfl) ?_
  refine lv_iload_n hx hb dX0_goLine_31 rfl (lv_at hl 3 rfl) ?_
  refine lv_lload hx hb dX0_goLine_32 (lv_at hl 0 rfl) ?_
  refine lv_lload hx hb dX0_goLine_34 (lv_at hl 1 rfl) ?_
  refine lv_ldc2 (v := (86400000000000 : Int64)) hx hb hown (hw _ bw190) dX0_goLine_36 ?_
  refine rcSl (as := [.long (((xN S) p0.toNatClampNeg) + p2), .long (86400000000000 : Int64)]) (rest := [.long ((((xD S) p0.toNatClampNeg) + p1) + (fJ9_floorDiv_f86c9 (((xN S) p0.toNatClampNeg) + p2) (86400000000000 : Int64))), .int p0, .ref (a 0)]) C (c_J9_floorMod_f86c9 l G (((xN S) p0.toNatClampNeg) + p2) (86400000000000 : Int64) (by decide)) F_J9_floorMod_f86c9 rfl bw195 bw196 (hE.S hS hAB) vpn hl.1 dX0_goLine_39 ⟨Nat.le_of_ble_eq_true rfl, Nat.le_of_ble_eq_true rfl⟩ rfl (Nat.le_of_ble_eq_true rfl) ⟨Nat.le_of_ble_eq_true rfl, Nat.le_of_ble_eq_true rfl⟩ ?_
  refine wcVi (as := [.int p0, .long ((((xD S) p0.toNatClampNeg) + p1) + (fJ9_floorDiv_f86c9 (((xN S) p0.toNatClampNeg) + p2) (86400000000000 : Int64))), .long (fJ9_floorMod_f86c9 (((xN S) p0.toNatClampNeg) + p2) (86400000000000 : Int64))]) (rest := []) (cl := RX0) C (c_X0_becomeDay l G a S p0 ((((xD S) p0.toNatClampNeg) + p1) + (fJ9_floorDiv_f86c9 (((xN S) p0.toNatClampNeg) + p2) (86400000000000 : Int64))) (fJ9_floorMod_f86c9 (((xN S) p0.toNatClampNeg) + p2) (86400000000000 : Int64)) h0) F_X0_becomeDay rfl bw427 bw429 bw21 (hE.S hS hAB) hP hD hS hA hAB (rv2 hE.K hP (q0 := 0) rfl) hl.1 dX0_goLine_42 ⟨Nat.le_of_ble_eq_true rfl, Nat.le_of_ble_eq_true rfl⟩ rfl (Nat.le_of_ble_eq_true rfl) ⟨Nat.le_of_ble_eq_true rfl, Nat.le_of_ble_eq_true rfl⟩ (fun H locs hP hD hS => ?_)
  exact we_i (wf := wX G a) hx hb hr hk hP hD hS (Nat.le_of_ble_eq_true rfl) (Nat.le_of_ble_eq_true rfl) dX0_goLine_45 rfl

set_option maxRecDepth 100000 in
set_option maxHeartbeats 4000000 in
theorem c_X0_goUnits (l : Launch) (G : GT) (a : Nat → Nat) (S : SX) (p0 : Int32) (p1 : Int64) (p2 : Int32) (h0 : vp_in p0 6) : WR l G yX0_goUnits cX0_goUnits 11 (some .int) 7 0 0 [.ref (a 0), .int p0, .long p1, .int p2] (wX G a S) (wX G a (gX0_goUnits S p0 p1 p2).2) (some (.int (gX0_goUnits S p0 p1 p2).1)) := by
  refine WR.ofW (own := RX0) rfl (plainFor_of_name pnN_RX0) (Nat.le_of_ble_eq_true rfl) ?_
  intro p e s m below meth c A C hr hk hnm hE hP hD hA hAB hS ls hl
  have hx := C.1
  have hb := C.2.1
  have hown := C.2.2.2.1
  have hw := C.2.2.2.2
  have hl : lv_has ls 11 [(0, .ref (a 0)), (1, .int p0), (2, .long p1), (4, .int p2)] := hl
  refine lv_iload hx hb dX0_goUnits_0 (lv_at hl 3 rfl) ?_
  refine lv_bipush (v := (8 : Int32)) hx hb dX0_goUnits_2 qb_8 ?_
  refine lv_icmp_ne (tgt := 19) hx hb dX0_goUnits_4 (by decide) (fun c_1 => ?_) (fun c_1 => ?_)
  · refine lv_iload hx hb dX0_goUnits_19 (lv_at hl 3 rfl) ?_
    refine rcSl (as := [.int p2]) (rest := []) C (c_X0_nanosOfUnit l G p2) F_X0_nanosOfUnit rfl bw223 bw224 (hE.S hS hAB) vpn hl.1 dX0_goUnits_21 ⟨Nat.le_of_ble_eq_true rfl, Nat.le_of_ble_eq_true rfl⟩ rfl (Nat.le_of_ble_eq_true rfl) ⟨Nat.le_of_ble_eq_true rfl, Nat.le_of_ble_eq_true rfl⟩ ?_
    refine lv_lstore (lv' := [(5, .long (fX0_nanosOfUnit p2)), (0, .ref (a 0)), (1, .int p0), (2, .long p1), (4, .int p2)]) hx hb dX0_goUnits_24 hl (Nat.le_of_ble_eq_true rfl) rfl (fun ls hl => ?_)
    refine lv_ldc2 (v := (86400000000000 : Int64)) hx hb hown (hw _ bw190) dX0_goUnits_26 ?_
    refine lv_lload hx hb dX0_goUnits_29 (lv_at hl 0 rfl) ?_
    refine rcSl (as := [.long (86400000000000 : Int64), .long (fX0_nanosOfUnit p2)]) (rest := []) C (c_X0_quotient l G (86400000000000 : Int64) (fX0_nanosOfUnit p2)) F_X0_quotient rfl bw229 bw230 (hE.S hS hAB) vpn hl.1 dX0_goUnits_31 ⟨Nat.le_of_ble_eq_true rfl, Nat.le_of_ble_eq_true rfl⟩ rfl (Nat.le_of_ble_eq_true rfl) ⟨Nat.le_of_ble_eq_true rfl, Nat.le_of_ble_eq_true rfl⟩ ?_
    refine lv_lstore (lv' := [(7, .long (fX0_quotient (86400000000000 : Int64) (fX0_nanosOfUnit p2))), (5, .long (fX0_nanosOfUnit p2)), (0, .ref (a 0)), (1, .int p0), (2, .long p1), (4, .int p2)]) hx hb dX0_goUnits_34 hl (Nat.le_of_ble_eq_true rfl) rfl (fun ls hl => ?_)
    refine lv_lload_n hx hb dX0_goUnits_36 rfl (lv_at hl 4 rfl) ?_
    refine lv_lload hx hb dX0_goUnits_37 (lv_at hl 0 rfl) ?_
    refine rcSl (as := [.long p1, .long (fX0_quotient (86400000000000 : Int64) (fX0_nanosOfUnit p2))]) (rest := []) C (c_X0_quotient l G p1 (fX0_quotient (86400000000000 : Int64) (fX0_nanosOfUnit p2))) F_X0_quotient rfl bw229 bw230 (hE.S hS hAB) vpn hl.1 dX0_goUnits_39 ⟨Nat.le_of_ble_eq_true rfl, Nat.le_of_ble_eq_true rfl⟩ rfl (Nat.le_of_ble_eq_true rfl) ⟨Nat.le_of_ble_eq_true rfl, Nat.le_of_ble_eq_true rfl⟩ ?_
    refine lv_lstore (lv' := [(9, .long (fX0_quotient p1 (fX0_quotient (86400000000000 : Int64) (fX0_nanosOfUnit p2)))), (7, .long (fX0_quotient (86400000000000 : Int64) (fX0_nanosOfUnit p2))), (5, .long (fX0_nanosOfUnit p2)), (0, .ref (a 0)), (1, .int p0), (2, .long p1), (4, .int p2)]) hx hb dX0_goUnits_42 hl (Nat.le_of_ble_eq_true rfl) rfl (fun ls hl => ?_)
    refine lv_aload_n hx hb dX0_goUnits_44 rfl (lv_at hl 3 rfl) ?_
    refine lv_iload_n hx hb dX0_goUnits_45 rfl (lv_at hl 4 rfl) ?_
    refine lv_lload hx hb dX0_goUnits_46 (lv_at hl 0 rfl) ?_
    refine lv_lload_n hx hb dX0_goUnits_48 rfl (lv_at hl 5 rfl) ?_
    refine lv_lload hx hb dX0_goUnits_49 (lv_at hl 0 rfl) ?_
    refine lv_lload hx hb dX0_goUnits_51 (lv_at hl 1 rfl) ?_
    refine lv_lmul hx hb dX0_goUnits_53 ?_
    refine lv_lsub hx hb dX0_goUnits_54 ?_
    refine lv_lload hx hb dX0_goUnits_55 (lv_at hl 2 rfl) ?_
    refine lv_lmul hx hb dX0_goUnits_57 ?_
    refine wcVi (as := [.int p0, .long (fX0_quotient p1 (fX0_quotient (86400000000000 : Int64) (fX0_nanosOfUnit p2))), .long ((p1 - ((fX0_quotient p1 (fX0_quotient (86400000000000 : Int64) (fX0_nanosOfUnit p2))) * (fX0_quotient (86400000000000 : Int64) (fX0_nanosOfUnit p2)))) * (fX0_nanosOfUnit p2))]) (rest := []) (cl := RX0) C (c_X0_goLine l G a S p0 (fX0_quotient p1 (fX0_quotient (86400000000000 : Int64) (fX0_nanosOfUnit p2))) ((p1 - ((fX0_quotient p1 (fX0_quotient (86400000000000 : Int64) (fX0_nanosOfUnit p2))) * (fX0_quotient (86400000000000 : Int64) (fX0_nanosOfUnit p2)))) * (fX0_nanosOfUnit p2)) h0) F_X0_goLine rfl bw572 bw574 bw27 (hE.S hS hAB) hP hD hS hA hAB (rv2 hE.K hP (q0 := 0) rfl) hl.1 dX0_goUnits_58 ⟨Nat.le_of_ble_eq_true rfl, Nat.le_of_ble_eq_true rfl⟩ rfl (Nat.le_of_ble_eq_true rfl) ⟨Nat.le_of_ble_eq_true rfl, Nat.le_of_ble_eq_true rfl⟩ (fun H locs hP hD hS => ?_)
    exact we_i (wf := wX G a) hx hb hr hk hP hD hS (Nat.le_of_ble_eq_true rfl) (Nat.le_of_ble_eq_true rfl) dX0_goUnits_61 (if_neg c_1)
  · refine lv_aload_n hx hb dX0_goUnits_7 rfl (lv_at hl 0 rfl) ?_
    refine lv_iload_n hx hb dX0_goUnits_8 rfl (lv_at hl 1 rfl) ?_
    refine lv_ldc2 (v := (7 : Int64)) hx hb hown (hw _ bw248) dX0_goUnits_9 ?_
    refine lv_lload_n hx hb dX0_goUnits_12 rfl (lv_at hl 2 rfl) ?_
    refine lv_lmul hx hb dX0_goUnits_13 ?_
    refine lv_lconst (v := (0 : Int64)) hx hb dX0_goUnits_14 ql_0 ?_
    refine wcVi (as := [.int p0, .long ((7 : Int64) * p1), .long (0 : Int64)]) (rest := []) (cl := RX0) C (c_X0_goLine l G a S p0 ((7 : Int64) * p1) (0 : Int64) h0) F_X0_goLine rfl bw572 bw574 bw27 (hE.S hS hAB) hP hD hS hA hAB (rv2 hE.K hP (q0 := 0) rfl) hl.1 dX0_goUnits_15 ⟨Nat.le_of_ble_eq_true rfl, Nat.le_of_ble_eq_true rfl⟩ rfl (Nat.le_of_ble_eq_true rfl) ⟨Nat.le_of_ble_eq_true rfl, Nat.le_of_ble_eq_true rfl⟩ (fun H locs hP hD hS => ?_)
    exact we_i (wf := wX G a) hx hb hr hk hP hD hS (Nat.le_of_ble_eq_true rfl) (Nat.le_of_ble_eq_true rfl) dX0_goUnits_18 (if_pos c_1)

set_option maxRecDepth 100000 in
set_option maxHeartbeats 4000000 in
theorem c_X0_hand (l : Launch) (G : GT) (a : Nat → Nat) (S : SX) (p0 : Int32) (p1 : Int32) (p2 : Int32) (p3 : Int32) (r0 : ¬ p0 < (0 : Int32)) (q0 : p0 ≤ (23 : Int32)) (r1 : ¬ p1 < (0 : Int32)) (q1 : p1 ≤ (59 : Int32)) (r2 : ¬ p2 < (0 : Int32)) (q2 : p2 ≤ (59 : Int32)) (r3 : ¬ p3 < (0 : Int32)) (q3 : p3 ≤ (999999999 : Int32)) : WR l G yX0_hand cX0_hand 6 (some .int) 8 0 0 [.ref (a 0), .int p0, .int p1, .int p2, .int p3] (wX G a S) (wX G a (gX0_hand S p0 p1 p2 p3).2) (some (.int (gX0_hand S p0 p1 p2 p3).1)) := by
  refine WR.ofW (own := RX0) rfl (plainFor_of_name pnN_RX0) (Nat.le_of_ble_eq_true rfl) ?_
  intro p e s m below meth c A C hr hk hnm hE hP hD hA hAB hS ls hl
  have hx := C.1
  have hb := C.2.1
  have hown := C.2.2.2.1
  have hw := C.2.2.2.2
  have hl : lv_has ls 6 [(0, .ref (a 0)), (1, .int p0), (2, .int p1), (3, .int p2), (4, .int p3)] := hl
  refine lv_iload_n hx hb dX0_hand_0 rfl (lv_at hl 1 rfl) ?_
  refine lv_iconst (v := (0 : Int32)) hx hb dX0_hand_1 qi_0 ?_
  refine lv_bipush (v := (23 : Int32)) hx hb dX0_hand_2 qb_23 ?_
  refine rcSv (as := [.int p0, .int (0 : Int32), .int (23 : Int32)]) (rest := []) C (c_X0_checkRange l G p0 (0 : Int32) (23 : Int32) r0 q0) F_X0_checkRange rfl bw308 bw309 (hE.S hS hAB) vpn hl.1 dX0_hand_4 ⟨Nat.le_of_ble_eq_true rfl, Nat.le_of_ble_eq_true rfl⟩ rfl (Nat.le_of_ble_eq_true rfl) ⟨Nat.le_of_ble_eq_true rfl, Nat.le_of_ble_eq_true rfl⟩ ?_
  refine lv_iload_n hx hb dX0_hand_7 rfl (lv_at hl 2 rfl) ?_
  refine lv_iconst (v := (0 : Int32)) hx hb dX0_hand_8 qi_0 ?_
  refine lv_bipush (v := (59 : Int32)) hx hb dX0_hand_9 qb_59 ?_
  refine rcSv (as := [.int p1, .int (0 : Int32), .int (59 : Int32)]) (rest := []) C (c_X0_checkRange l G p1 (0 : Int32) (59 : Int32) r1 q1) F_X0_checkRange rfl bw308 bw309 (hE.S hS hAB) vpn hl.1 dX0_hand_11 ⟨Nat.le_of_ble_eq_true rfl, Nat.le_of_ble_eq_true rfl⟩ rfl (Nat.le_of_ble_eq_true rfl) ⟨Nat.le_of_ble_eq_true rfl, Nat.le_of_ble_eq_true rfl⟩ ?_
  refine lv_iload_n hx hb dX0_hand_14 rfl (lv_at hl 3 rfl) ?_
  refine lv_iconst (v := (0 : Int32)) hx hb dX0_hand_15 qi_0 ?_
  refine lv_bipush (v := (59 : Int32)) hx hb dX0_hand_16 qb_59 ?_
  refine rcSv (as := [.int p2, .int (0 : Int32), .int (59 : Int32)]) (rest := []) C (c_X0_checkRange l G p2 (0 : Int32) (59 : Int32) r2 q2) F_X0_checkRange rfl bw308 bw309 (hE.S hS hAB) vpn hl.1 dX0_hand_18 ⟨Nat.le_of_ble_eq_true rfl, Nat.le_of_ble_eq_true rfl⟩ rfl (Nat.le_of_ble_eq_true rfl) ⟨Nat.le_of_ble_eq_true rfl, Nat.le_of_ble_eq_true rfl⟩ ?_
  refine lv_iload hx hb dX0_hand_21 (lv_at hl 4 rfl) ?_
  refine lv_iconst (v := (0 : Int32)) hx hb dX0_hand_23 qi_0 ?_
  refine lv_ldc (v := (999999999 : Int32)) hx hb hown (hw _ bw378) dX0_hand_24 ?_
  refine rcSv (as := [.int p3, .int (0 : Int32), .int (999999999 : Int32)]) (rest := []) C (c_X0_checkRange l G p3 (0 : Int32) (999999999 : Int32) r3 q3) F_X0_checkRange rfl bw308 bw309 (hE.S hS hAB) vpn hl.1 dX0_hand_26 ⟨Nat.le_of_ble_eq_true rfl, Nat.le_of_ble_eq_true rfl⟩ rfl (Nat.le_of_ble_eq_true rfl) ⟨Nat.le_of_ble_eq_true rfl, Nat.le_of_ble_eq_true rfl⟩ ?_
  refine lv_aload_n hx hb dX0_hand_29 rfl (lv_at hl 0 rfl) ?_
  refine va_get (D := gD G) (cl := vwCl) (tys := gT G) (ci := 2) (v := .int (xi S 0)) (C := RX0) (T := TX0) (N := 12) hx hb hw inB_X0 hown hE.K hP 0 rfl rfl 5 (by decide) (hw _ bw99) (fun _ h9 => h9) rfl dX0_hand_30 ?_
  refine lv_istore (lv' := [(5, .int (xi S 0)), (0, .ref (a 0)), (1, .int p0), (2, .int p1), (3, .int p2), (4, .int p3)]) hx hb dX0_hand_33 hl (Nat.le_of_ble_eq_true rfl) rfl (fun ls hl => ?_)
  refine lv_aload_n hx hb dX0_hand_35 rfl (lv_at hl 1 rfl) ?_
  refine lv_iload_n hx hb dX0_hand_36 rfl (lv_at hl 2 rfl) ?_
  refine va_put (D := gD G) (cl := vwCl) (tys := gT G) (ci := 2) (v := .int p0) (ty := .int) (C := RX0) (T := TX0) (N := 12) hx hb hw inB_X0 tyX0 tyX0_ok nmX0 hown hE.K hP hD hS 0 rfl rfl 5 (by decide) (hw _ bw99) (fun _ h9 => h9) rfl (by decide +kernel) rfl rfl (Nat.le_of_ble_eq_true rfl) dX0_hand_37 (fun H locs hP hD hS => ?_)
  have hP : va_P (gD G) vwCl (wX G a ((xy S), (xm S), (xd S), (xD S), (xN S), (upd (S.2.2.2.2.2) 0 p0))) H := hP
  have hD : va_D A (wX G a ((xy S), (xm S), (xd S), (xD S), (xN S), (upd (S.2.2.2.2.2) 0 p0))) := hD
  refine lv_aload_n hx hb dX0_hand_40 rfl (lv_at hl 1 rfl) ?_
  refine lv_iload_n hx hb dX0_hand_41 rfl (lv_at hl 3 rfl) ?_
  refine va_put (D := gD G) (cl := vwCl) (tys := gT G) (ci := 2) (v := .int p1) (ty := .int) (C := RX0) (T := TX0) (N := 12) hx hb hw inB_X0 tyX0 tyX0_ok nmX0 hown hE.K hP hD hS 0 rfl rfl 6 (by decide) (hw _ bw100) (fun _ h9 => h9) rfl (by decide +kernel) rfl rfl (Nat.le_of_ble_eq_true rfl) dX0_hand_42 (fun H locs hP hD hS => ?_)
  have hP : va_P (gD G) vwCl (wX G a ((xy S), (xm S), (xd S), (xD S), (xN S), (upd (upd (S.2.2.2.2.2) 0 p0) 1 p1))) H := hP
  have hD : va_D A (wX G a ((xy S), (xm S), (xd S), (xD S), (xN S), (upd (upd (S.2.2.2.2.2) 0 p0) 1 p1))) := hD
  refine lv_aload_n hx hb dX0_hand_45 rfl (lv_at hl 1 rfl) ?_
  refine lv_iload_n hx hb dX0_hand_46 rfl (lv_at hl 4 rfl) ?_
  refine va_put (D := gD G) (cl := vwCl) (tys := gT G) (ci := 2) (v := .int p2) (ty := .int) (C := RX0) (T := TX0) (N := 12) hx hb hw inB_X0 tyX0 tyX0_ok nmX0 hown hE.K hP hD hS 0 rfl rfl 7 (by decide) (hw _ bw101) (fun _ h9 => h9) rfl (by decide +kernel) rfl rfl (Nat.le_of_ble_eq_true rfl) dX0_hand_47 (fun H locs hP hD hS => ?_)
  have hP : va_P (gD G) vwCl (wX G a ((xy S), (xm S), (xd S), (xD S), (xN S), (upd (upd (upd (S.2.2.2.2.2) 0 p0) 1 p1) 2 p2))) H := hP
  have hD : va_D A (wX G a ((xy S), (xm S), (xd S), (xD S), (xN S), (upd (upd (upd (S.2.2.2.2.2) 0 p0) 1 p1) 2 p2))) := hD
  refine lv_aload_n hx hb dX0_hand_50 rfl (lv_at hl 1 rfl) ?_
  refine lv_iload hx hb dX0_hand_51 (lv_at hl 5 rfl) ?_
  refine va_put (D := gD G) (cl := vwCl) (tys := gT G) (ci := 2) (v := .int p3) (ty := .int) (C := RX0) (T := TX0) (N := 12) hx hb hw inB_X0 tyX0 tyX0_ok nmX0 hown hE.K hP hD hS 0 rfl rfl 8 (by decide) (hw _ bw102) (fun _ h9 => h9) rfl (by decide +kernel) rfl rfl (Nat.le_of_ble_eq_true rfl) dX0_hand_53 (fun H locs hP hD hS => ?_)
  have hP : va_P (gD G) vwCl (wX G a ((xy S), (xm S), (xd S), (xD S), (xN S), (upd (upd (upd (upd (S.2.2.2.2.2) 0 p0) 1 p1) 2 p2) 3 p3))) H := hP
  have hD : va_D A (wX G a ((xy S), (xm S), (xd S), (xD S), (xN S), (upd (upd (upd (upd (S.2.2.2.2.2) 0 p0) 1 p1) 2 p2) 3 p3))) := hD
  refine lv_iload hx hb dX0_hand_56 (lv_at hl 0 rfl) ?_
  exact we_i (wf := wX G a) hx hb hr hk hP hD hS (Nat.le_of_ble_eq_true rfl) (Nat.le_of_ble_eq_true rfl) dX0_hand_58 rfl

set_option maxRecDepth 100000 in
set_option maxHeartbeats 4000000 in
theorem c_X0_of (l : Launch) (G : GT) (a : Nat → Nat) (S : SX) (p0 : Int32) (p1 : Int32) (p2 : Int32) (p3 : Int32) (p4 : Int32) (h0 : vp_in p0 6) (r1 : ¬ p1 < (-9999 : Int32)) (q1 : p1 ≤ (9999 : Int32)) (r2 : ¬ p2 < (1 : Int32)) (q2 : p2 ≤ (12 : Int32)) (r3 : ¬ p3 < (1 : Int32)) (q3 : p3 ≤ (31 : Int32)) (r4 : ¬ p4 < (0 : Int32)) (q4 : p4 ≤ (6 : Int32)) : WR l G yX0_of cX0_of 6 (some .int) 8 0 0 [.ref (a 0), .int p0, .int p1, .int p2, .int p3, .int p4] (wX G a S) (wX G a (gX0_of S p0 p1 p2 p3 p4).2) (some (.int (gX0_of S p0 p1 p2 p3 p4).1)) := by
  refine WR.ofW (own := RX0) rfl (plainFor_of_name pnN_RX0) (Nat.le_of_ble_eq_true rfl) ?_
  intro p e s m below meth c A C hr hk hnm hE hP hD hA hAB hS ls hl
  have hx := C.1
  have hb := C.2.1
  have hown := C.2.2.2.1
  have hw := C.2.2.2.2
  have hl : lv_has ls 6 [(0, .ref (a 0)), (1, .int p0), (2, .int p1), (3, .int p2), (4, .int p3), (5, .int p4)] := hl
  refine lv_iload_n hx hb dX0_of_0 rfl (lv_at hl 1 rfl) ?_
  refine rcSv (as := [.int p0]) (rest := []) C (c_X0_checkMoment l G p0 h0) F_X0_checkMoment rfl bw387 bw388 (hE.S hS hAB) vpn hl.1 dX0_of_1 ⟨Nat.le_of_ble_eq_true rfl, Nat.le_of_ble_eq_true rfl⟩ rfl (Nat.le_of_ble_eq_true rfl) ⟨Nat.le_of_ble_eq_true rfl, Nat.le_of_ble_eq_true rfl⟩ ?_
  refine lv_iload_n hx hb dX0_of_4 rfl (lv_at hl 2 rfl) ?_
  refine lv_sipush (v := (-9999 : Int32)) hx hb dX0_of_5 qs_m9999 ?_
  refine lv_sipush (v := (9999 : Int32)) hx hb dX0_of_8 qs_9999 ?_
  refine rcSv (as := [.int p1, .int (-9999 : Int32), .int (9999 : Int32)]) (rest := []) C (c_X0_checkRange l G p1 (-9999 : Int32) (9999 : Int32) r1 q1) F_X0_checkRange rfl bw308 bw309 (hE.S hS hAB) vpn hl.1 dX0_of_11 ⟨Nat.le_of_ble_eq_true rfl, Nat.le_of_ble_eq_true rfl⟩ rfl (Nat.le_of_ble_eq_true rfl) ⟨Nat.le_of_ble_eq_true rfl, Nat.le_of_ble_eq_true rfl⟩ ?_
  refine lv_iload_n hx hb dX0_of_14 rfl (lv_at hl 3 rfl) ?_
  refine lv_iconst (v := (1 : Int32)) hx hb dX0_of_15 qi_1 ?_
  refine lv_bipush (v := (12 : Int32)) hx hb dX0_of_16 qb_12 ?_
  refine rcSv (as := [.int p2, .int (1 : Int32), .int (12 : Int32)]) (rest := []) C (c_X0_checkRange l G p2 (1 : Int32) (12 : Int32) r2 q2) F_X0_checkRange rfl bw308 bw309 (hE.S hS hAB) vpn hl.1 dX0_of_18 ⟨Nat.le_of_ble_eq_true rfl, Nat.le_of_ble_eq_true rfl⟩ rfl (Nat.le_of_ble_eq_true rfl) ⟨Nat.le_of_ble_eq_true rfl, Nat.le_of_ble_eq_true rfl⟩ ?_
  refine lv_iload hx hb dX0_of_21 (lv_at hl 4 rfl) ?_
  refine lv_iconst (v := (1 : Int32)) hx hb dX0_of_23 qi_1 ?_
  refine lv_bipush (v := (31 : Int32)) hx hb dX0_of_24 qb_31 ?_
  refine rcSv (as := [.int p3, .int (1 : Int32), .int (31 : Int32)]) (rest := []) C (c_X0_checkRange l G p3 (1 : Int32) (31 : Int32) r3 q3) F_X0_checkRange rfl bw308 bw309 (hE.S hS hAB) vpn hl.1 dX0_of_26 ⟨Nat.le_of_ble_eq_true rfl, Nat.le_of_ble_eq_true rfl⟩ rfl (Nat.le_of_ble_eq_true rfl) ⟨Nat.le_of_ble_eq_true rfl, Nat.le_of_ble_eq_true rfl⟩ ?_
  refine lv_iload hx hb dX0_of_29 (lv_at hl 5 rfl) ?_
  refine lv_iconst (v := (0 : Int32)) hx hb dX0_of_31 qi_0 ?_
  refine lv_bipush (v := (6 : Int32)) hx hb dX0_of_32 qb_6 ?_
  refine rcSv (as := [.int p4, .int (0 : Int32), .int (6 : Int32)]) (rest := []) C (c_X0_checkRange l G p4 (0 : Int32) (6 : Int32) r4 q4) F_X0_checkRange rfl bw308 bw309 (hE.S hS hAB) vpn hl.1 dX0_of_34 ⟨Nat.le_of_ble_eq_true rfl, Nat.le_of_ble_eq_true rfl⟩ rfl (Nat.le_of_ble_eq_true rfl) ⟨Nat.le_of_ble_eq_true rfl, Nat.le_of_ble_eq_true rfl⟩ ?_
  refine lv_aload_n hx hb dX0_of_37 rfl (lv_at hl 0 rfl) ?_
  refine lv_iload_n hx hb dX0_of_38 rfl (lv_at hl 1 rfl) ?_
  refine lv_iload_n hx hb dX0_of_39 rfl (lv_at hl 2 rfl) ?_
  refine lv_iload_n hx hb dX0_of_40 rfl (lv_at hl 3 rfl) ?_
  refine lv_iload hx hb dX0_of_41 (lv_at hl 4 rfl) ?_
  refine lv_aload_n hx hb dX0_of_43 rfl (lv_at hl 0 rfl) ?_
  refine lv_iload hx hb dX0_of_44 (lv_at hl 5 rfl) ?_
  refine rcVl (as := [.int p4]) (rest := [.int p3, .int p2, .int p1, .int p0, .ref (a 0)]) (cl := RX0) C (c_X0_handTime l G a S p4) F_X0_handTime rfl bw406 bw408 bw18 (hE.S hS hAB) hP (rv2 hE.K hP (q0 := 0) rfl) hl.1 dX0_of_46 ⟨Nat.le_of_ble_eq_true rfl, Nat.le_of_ble_eq_true rfl⟩ rfl (Nat.le_of_ble_eq_true rfl) ⟨Nat.le_of_ble_eq_true rfl, Nat.le_of_ble_eq_true rfl⟩ ?_
  refine wcVi (as := [.int p0, .int p1, .int p2, .int p3, .long (fX0_handTime S p4)]) (rest := []) (cl := RX0) C (c_X0_becomeDate l G a S p0 p1 p2 p3 (fX0_handTime S p4) h0) F_X0_becomeDate rfl bw410 bw412 bw19 (hE.S hS hAB) hP hD hS hA hAB (rv2 hE.K hP (q0 := 0) rfl) hl.1 dX0_of_49 ⟨Nat.le_of_ble_eq_true rfl, Nat.le_of_ble_eq_true rfl⟩ rfl (Nat.le_of_ble_eq_true rfl) ⟨Nat.le_of_ble_eq_true rfl, Nat.le_of_ble_eq_true rfl⟩ (fun H locs hP hD hS => ?_)
  exact we_i (wf := wX G a) hx hb hr hk hP hD hS (Nat.le_of_ble_eq_true rfl) (Nat.le_of_ble_eq_true rfl) dX0_of_52 rfl

set_option maxRecDepth 100000 in
set_option maxHeartbeats 4000000 in
theorem c_X0_ofDay (l : Launch) (G : GT) (a : Nat → Nat) (S : SX) (p0 : Int32) (p1 : Int32) (h0 : vp_in p0 6) (r1 : ¬ p1 < (-10000000 : Int32)) (q1 : p1 ≤ (10000000 : Int32)) : WR l G yX0_ofDay cX0_ofDay 3 (some .int) 8 0 0 [.ref (a 0), .int p0, .int p1] (wX G a S) (wX G a (gX0_ofDay S p0 p1).2) (some (.int (gX0_ofDay S p0 p1).1)) := by
  refine WR.ofW (own := RX0) rfl (plainFor_of_name pnN_RX0) (Nat.le_of_ble_eq_true rfl) ?_
  intro p e s m below meth c A C hr hk hnm hE hP hD hA hAB hS ls hl
  have hx := C.1
  have hb := C.2.1
  have hown := C.2.2.2.1
  have hw := C.2.2.2.2
  have hl : lv_has ls 3 [(0, .ref (a 0)), (1, .int p0), (2, .int p1)] := hl
  refine lv_iload_n hx hb dX0_ofDay_0 rfl (lv_at hl 1 rfl) ?_
  refine rcSv (as := [.int p0]) (rest := []) C (c_X0_checkMoment l G p0 h0) F_X0_checkMoment rfl bw387 bw388 (hE.S hS hAB) vpn hl.1 dX0_ofDay_1 ⟨Nat.le_of_ble_eq_true rfl, Nat.le_of_ble_eq_true rfl⟩ rfl (Nat.le_of_ble_eq_true rfl) ⟨Nat.le_of_ble_eq_true rfl, Nat.le_of_ble_eq_true rfl⟩ ?_
  refine lv_iload_n hx hb dX0_ofDay_4 rfl (lv_at hl 2 rfl) ?_
  refine lv_ldc (v := (-10000000 : Int32)) hx hb hown (hw _ bw425) dX0_ofDay_5 ?_
  refine lv_ldc (v := (10000000 : Int32)) hx hb hown (hw _ bw426) dX0_ofDay_7 ?_
  refine rcSv (as := [.int p1, .int (-10000000 : Int32), .int (10000000 : Int32)]) (rest := []) C (c_X0_checkRange l G p1 (-10000000 : Int32) (10000000 : Int32) r1 q1) F_X0_checkRange rfl bw308 bw309 (hE.S hS hAB) vpn hl.1 dX0_ofDay_9 ⟨Nat.le_of_ble_eq_true rfl, Nat.le_of_ble_eq_true rfl⟩ rfl (Nat.le_of_ble_eq_true rfl) ⟨Nat.le_of_ble_eq_true rfl, Nat.le_of_ble_eq_true rfl⟩ ?_
  refine lv_aload_n hx hb dX0_ofDay_12 rfl (lv_at hl 0 rfl) ?_
  refine lv_iload_n hx hb dX0_ofDay_13 rfl (lv_at hl 1 rfl) ?_
  refine lv_iload_n hx hb dX0_ofDay_14 rfl (lv_at hl 2 rfl) ?_
  refine lv_i2l (v := (p1.toInt64)) hx hb dX0_ofDay_15 (by first | rfl | decide) ?_
  refine lv_aload_n hx hb dX0_ofDay_16 rfl (lv_at hl 0 rfl) ?_
  refine lv_iconst (v := (2 : Int32)) hx hb dX0_ofDay_17 qi_2 ?_
  refine rcVl (as := [.int (2 : Int32)]) (rest := [.long (p1.toInt64), .int p0, .ref (a 0)]) (cl := RX0) C (c_X0_handTime l G a S (2 : Int32)) F_X0_handTime rfl bw406 bw408 bw18 (hE.S hS hAB) hP (rv2 hE.K hP (q0 := 0) rfl) hl.1 dX0_ofDay_18 ⟨Nat.le_of_ble_eq_true rfl, Nat.le_of_ble_eq_true rfl⟩ rfl (Nat.le_of_ble_eq_true rfl) ⟨Nat.le_of_ble_eq_true rfl, Nat.le_of_ble_eq_true rfl⟩ ?_
  refine wcVi (as := [.int p0, .long (p1.toInt64), .long (fX0_handTime S (2 : Int32))]) (rest := []) (cl := RX0) C (c_X0_becomeDay l G a S p0 (p1.toInt64) (fX0_handTime S (2 : Int32)) h0) F_X0_becomeDay rfl bw427 bw429 bw21 (hE.S hS hAB) hP hD hS hA hAB (rv2 hE.K hP (q0 := 0) rfl) hl.1 dX0_ofDay_21 ⟨Nat.le_of_ble_eq_true rfl, Nat.le_of_ble_eq_true rfl⟩ rfl (Nat.le_of_ble_eq_true rfl) ⟨Nat.le_of_ble_eq_true rfl, Nat.le_of_ble_eq_true rfl⟩ (fun H locs hP hD hS => ?_)
  exact we_i (wf := wX G a) hx hb hr hk hP hD hS (Nat.le_of_ble_eq_true rfl) (Nat.le_of_ble_eq_true rfl) dX0_ofDay_24 rfl

set_option maxRecDepth 100000 in
set_option maxHeartbeats 4000000 in
theorem c_X0_copy (l : Launch) (G : GT) (a : Nat → Nat) (S : SX) (p0 : Int32) (p1 : Int32) (h0 : vp_in p0 6) (h1 : vp_in p1 6) : WR l G yX0_copy cX0_copy 3 (some .int) 8 0 0 [.ref (a 0), .int p0, .int p1] (wX G a S) (wX G a (gX0_copy S p0 p1).2) (some (.int (gX0_copy S p0 p1).1)) := by
  refine WR.ofW (own := RX0) rfl (plainFor_of_name pnN_RX0) (Nat.le_of_ble_eq_true rfl) ?_
  intro p e s m below meth c A C hr hk hnm hE hP hD hA hAB hS ls hl
  have hx := C.1
  have hb := C.2.1
  have hown := C.2.2.2.1
  have hw := C.2.2.2.2
  have hl : lv_has ls 3 [(0, .ref (a 0)), (1, .int p0), (2, .int p1)] := hl
  refine lv_iload_n hx hb dX0_copy_0 rfl (lv_at hl 1 rfl) ?_
  refine rcSv (as := [.int p0]) (rest := []) C (c_X0_checkMoment l G p0 h0) F_X0_checkMoment rfl bw387 bw388 (hE.S hS hAB) vpn hl.1 dX0_copy_1 ⟨Nat.le_of_ble_eq_true rfl, Nat.le_of_ble_eq_true rfl⟩ rfl (Nat.le_of_ble_eq_true rfl) ⟨Nat.le_of_ble_eq_true rfl, Nat.le_of_ble_eq_true rfl⟩ ?_
  refine lv_iload_n hx hb dX0_copy_4 rfl (lv_at hl 2 rfl) ?_
  refine rcSv (as := [.int p1]) (rest := []) C (c_X0_checkMoment l G p1 h1) F_X0_checkMoment rfl bw387 bw388 (hE.S hS hAB) vpn hl.1 dX0_copy_5 ⟨Nat.le_of_ble_eq_true rfl, Nat.le_of_ble_eq_true rfl⟩ rfl (Nat.le_of_ble_eq_true rfl) ⟨Nat.le_of_ble_eq_true rfl, Nat.le_of_ble_eq_true rfl⟩ ?_
  refine lv_aload_n hx hb dX0_copy_8 rfl (lv_at hl 0 rfl) ?_
  refine lv_iload_n hx hb dX0_copy_9 rfl (lv_at hl 1 rfl) ?_
  refine lv_iload_n hx hb dX0_copy_10 rfl (lv_at hl 2 rfl) ?_
  refine lv_aload_n hx hb dX0_copy_11 rfl (lv_at hl 0 rfl) ?_
  refine va_get (D := gD G) (cl := vwCl) (tys := gT G) (ci := 2) (v := .ref (a 5)) (C := RX0) (T := TX0) (N := 12) hx hb hw inB_X0 hown hE.K hP 0 rfl rfl 4 (by decide) (hw _ bw98) (fun _ h9 => h9) rfl dX0_copy_12 ?_
  refine lv_iload_n hx hb dX0_copy_15 rfl (lv_at hl 2 rfl) ?_
  refine va_lald (tys := gT G) hx hb hE.K hP 5 1 rfl rfl h1 dX0_copy_16 ?_
  refine wcVi (as := [.int p0, .int p1, .long ((xN S) p1.toNatClampNeg)]) (rest := []) (cl := RX0) C (c_X0_becomeAs l G a S p0 p1 ((xN S) p1.toNatClampNeg) h0 h1) F_X0_becomeAs rfl bw446 bw448 bw22 (hE.S hS hAB) hP hD hS hA hAB (rv2 hE.K hP (q0 := 0) rfl) hl.1 dX0_copy_17 ⟨Nat.le_of_ble_eq_true rfl, Nat.le_of_ble_eq_true rfl⟩ rfl (Nat.le_of_ble_eq_true rfl) ⟨Nat.le_of_ble_eq_true rfl, Nat.le_of_ble_eq_true rfl⟩ (fun H locs hP hD hS => ?_)
  exact we_i (wf := wX G a) hx hb hr hk hP hD hS (Nat.le_of_ble_eq_true rfl) (Nat.le_of_ble_eq_true rfl) dX0_copy_20 rfl

set_option maxRecDepth 100000 in
set_option maxHeartbeats 4000000 in
theorem c_X0_takeDate (l : Launch) (G : GT) (a : Nat → Nat) (S : SX) (p0 : Int32) (p1 : Int32) (h0 : vp_in p0 6) (h1 : vp_in p1 6) : WR l G yX0_takeDate cX0_takeDate 3 (some .int) 8 0 0 [.ref (a 0), .int p0, .int p1] (wX G a S) (wX G a (gX0_takeDate S p0 p1).2) (some (.int (gX0_takeDate S p0 p1).1)) := by
  refine WR.ofW (own := RX0) rfl (plainFor_of_name pnN_RX0) (Nat.le_of_ble_eq_true rfl) ?_
  intro p e s m below meth c A C hr hk hnm hE hP hD hA hAB hS ls hl
  have hx := C.1
  have hb := C.2.1
  have hown := C.2.2.2.1
  have hw := C.2.2.2.2
  have hl : lv_has ls 3 [(0, .ref (a 0)), (1, .int p0), (2, .int p1)] := hl
  refine lv_iload_n hx hb dX0_takeDate_0 rfl (lv_at hl 1 rfl) ?_
  refine rcSv (as := [.int p0]) (rest := []) C (c_X0_checkMoment l G p0 h0) F_X0_checkMoment rfl bw387 bw388 (hE.S hS hAB) vpn hl.1 dX0_takeDate_1 ⟨Nat.le_of_ble_eq_true rfl, Nat.le_of_ble_eq_true rfl⟩ rfl (Nat.le_of_ble_eq_true rfl) ⟨Nat.le_of_ble_eq_true rfl, Nat.le_of_ble_eq_true rfl⟩ ?_
  refine lv_iload_n hx hb dX0_takeDate_4 rfl (lv_at hl 2 rfl) ?_
  refine rcSv (as := [.int p1]) (rest := []) C (c_X0_checkMoment l G p1 h1) F_X0_checkMoment rfl bw387 bw388 (hE.S hS hAB) vpn hl.1 dX0_takeDate_5 ⟨Nat.le_of_ble_eq_true rfl, Nat.le_of_ble_eq_true rfl⟩ rfl (Nat.le_of_ble_eq_true rfl) ⟨Nat.le_of_ble_eq_true rfl, Nat.le_of_ble_eq_true rfl⟩ ?_
  refine lv_aload_n hx hb dX0_takeDate_8 rfl (lv_at hl 0 rfl) ?_
  refine lv_iload_n hx hb dX0_takeDate_9 rfl (lv_at hl 1 rfl) ?_
  refine lv_iload_n hx hb dX0_takeDate_10 rfl (lv_at hl 2 rfl) ?_
  refine lv_aload_n hx hb dX0_takeDate_11 rfl (lv_at hl 0 rfl) ?_
  refine va_get (D := gD G) (cl := vwCl) (tys := gT G) (ci := 2) (v := .ref (a 5)) (C := RX0) (T := TX0) (N := 12) hx hb hw inB_X0 hown hE.K hP 0 rfl rfl 4 (by decide) (hw _ bw98) (fun _ h9 => h9) rfl dX0_takeDate_12 ?_
  refine lv_iload_n hx hb dX0_takeDate_15 rfl (lv_at hl 1 rfl) ?_
  refine va_lald (tys := gT G) hx hb hE.K hP 5 1 rfl rfl h0 dX0_takeDate_16 ?_
  refine wcVi (as := [.int p0, .int p1, .long ((xN S) p0.toNatClampNeg)]) (rest := []) (cl := RX0) C (c_X0_becomeAs l G a S p0 p1 ((xN S) p0.toNatClampNeg) h0 h1) F_X0_becomeAs rfl bw446 bw448 bw22 (hE.S hS hAB) hP hD hS hA hAB (rv2 hE.K hP (q0 := 0) rfl) hl.1 dX0_takeDate_17 ⟨Nat.le_of_ble_eq_true rfl, Nat.le_of_ble_eq_true rfl⟩ rfl (Nat.le_of_ble_eq_true rfl) ⟨Nat.le_of_ble_eq_true rfl, Nat.le_of_ble_eq_true rfl⟩ (fun H locs hP hD hS => ?_)
  exact we_i (wf := wX G a) hx hb hr hk hP hD hS (Nat.le_of_ble_eq_true rfl) (Nat.le_of_ble_eq_true rfl) dX0_takeDate_20 rfl

set_option maxRecDepth 100000 in
set_option maxHeartbeats 4000000 in
theorem c_X0_takeTime (l : Launch) (G : GT) (a : Nat → Nat) (S : SX) (p0 : Int32) (p1 : Int32) (h0 : vp_in p0 6) (h1 : vp_in p1 6) : WR l G yX0_takeTime cX0_takeTime 3 (some .int) 8 0 0 [.ref (a 0), .int p0, .int p1] (wX G a S) (wX G a (gX0_takeTime S p0 p1).2) (some (.int (gX0_takeTime S p0 p1).1)) := by
  refine WR.ofW (own := RX0) rfl (plainFor_of_name pnN_RX0) (Nat.le_of_ble_eq_true rfl) ?_
  intro p e s m below meth c A C hr hk hnm hE hP hD hA hAB hS ls hl
  have hx := C.1
  have hb := C.2.1
  have hown := C.2.2.2.1
  have hw := C.2.2.2.2
  have hl : lv_has ls 3 [(0, .ref (a 0)), (1, .int p0), (2, .int p1)] := hl
  refine lv_iload_n hx hb dX0_takeTime_0 rfl (lv_at hl 1 rfl) ?_
  refine rcSv (as := [.int p0]) (rest := []) C (c_X0_checkMoment l G p0 h0) F_X0_checkMoment rfl bw387 bw388 (hE.S hS hAB) vpn hl.1 dX0_takeTime_1 ⟨Nat.le_of_ble_eq_true rfl, Nat.le_of_ble_eq_true rfl⟩ rfl (Nat.le_of_ble_eq_true rfl) ⟨Nat.le_of_ble_eq_true rfl, Nat.le_of_ble_eq_true rfl⟩ ?_
  refine lv_iload_n hx hb dX0_takeTime_4 rfl (lv_at hl 2 rfl) ?_
  refine rcSv (as := [.int p1]) (rest := []) C (c_X0_checkMoment l G p1 h1) F_X0_checkMoment rfl bw387 bw388 (hE.S hS hAB) vpn hl.1 dX0_takeTime_5 ⟨Nat.le_of_ble_eq_true rfl, Nat.le_of_ble_eq_true rfl⟩ rfl (Nat.le_of_ble_eq_true rfl) ⟨Nat.le_of_ble_eq_true rfl, Nat.le_of_ble_eq_true rfl⟩ ?_
  refine lv_aload_n hx hb dX0_takeTime_8 rfl (lv_at hl 0 rfl) ?_
  refine lv_iload_n hx hb dX0_takeTime_9 rfl (lv_at hl 1 rfl) ?_
  refine lv_iload_n hx hb dX0_takeTime_10 rfl (lv_at hl 1 rfl) ?_
  refine lv_aload_n hx hb dX0_takeTime_11 rfl (lv_at hl 0 rfl) ?_
  refine va_get (D := gD G) (cl := vwCl) (tys := gT G) (ci := 2) (v := .ref (a 5)) (C := RX0) (T := TX0) (N := 12) hx hb hw inB_X0 hown hE.K hP 0 rfl rfl 4 (by decide) (hw _ bw98) (fun _ h9 => h9) rfl dX0_takeTime_12 ?_
  refine lv_iload_n hx hb dX0_takeTime_15 rfl (lv_at hl 2 rfl) ?_
  refine va_lald (tys := gT G) hx hb hE.K hP 5 1 rfl rfl h1 dX0_takeTime_16 ?_
  refine wcVi (as := [.int p0, .int p0, .long ((xN S) p1.toNatClampNeg)]) (rest := []) (cl := RX0) C (c_X0_becomeAs l G a S p0 p0 ((xN S) p1.toNatClampNeg) h0 h0) F_X0_becomeAs rfl bw446 bw448 bw22 (hE.S hS hAB) hP hD hS hA hAB (rv2 hE.K hP (q0 := 0) rfl) hl.1 dX0_takeTime_17 ⟨Nat.le_of_ble_eq_true rfl, Nat.le_of_ble_eq_true rfl⟩ rfl (Nat.le_of_ble_eq_true rfl) ⟨Nat.le_of_ble_eq_true rfl, Nat.le_of_ble_eq_true rfl⟩ (fun H locs hP hD hS => ?_)
  exact we_i (wf := wX G a) hx hb hr hk hP hD hS (Nat.le_of_ble_eq_true rfl) (Nat.le_of_ble_eq_true rfl) dX0_takeTime_20 rfl

set_option maxRecDepth 100000 in
set_option maxHeartbeats 4000000 in
theorem c_X0_withYear (l : Launch) (G : GT) (a : Nat → Nat) (S : SX) (p0 : Int32) (p1 : Int32) (h0 : vp_in p0 6) (r1 : ¬ p1 < (-9999 : Int32)) (q1 : p1 ≤ (9999 : Int32)) : WR l G yX0_withYear cX0_withYear 3 (some .int) 8 0 0 [.ref (a 0), .int p0, .int p1] (wX G a S) (wX G a (gX0_withYear S p0 p1).2) (some (.int (gX0_withYear S p0 p1).1)) := by
  refine WR.ofW (own := RX0) rfl (plainFor_of_name pnN_RX0) (Nat.le_of_ble_eq_true rfl) ?_
  intro p e s m below meth c A C hr hk hnm hE hP hD hA hAB hS ls hl
  have hx := C.1
  have hb := C.2.1
  have hown := C.2.2.2.1
  have hw := C.2.2.2.2
  have hl : lv_has ls 3 [(0, .ref (a 0)), (1, .int p0), (2, .int p1)] := hl
  refine lv_iload_n hx hb dX0_withYear_0 rfl (lv_at hl 1 rfl) ?_
  refine rcSv (as := [.int p0]) (rest := []) C (c_X0_checkMoment l G p0 h0) F_X0_checkMoment rfl bw387 bw388 (hE.S hS hAB) vpn hl.1 dX0_withYear_1 ⟨Nat.le_of_ble_eq_true rfl, Nat.le_of_ble_eq_true rfl⟩ rfl (Nat.le_of_ble_eq_true rfl) ⟨Nat.le_of_ble_eq_true rfl, Nat.le_of_ble_eq_true rfl⟩ ?_
  refine lv_iload_n hx hb dX0_withYear_4 rfl (lv_at hl 2 rfl) ?_
  refine lv_sipush (v := (-9999 : Int32)) hx hb dX0_withYear_5 qs_m9999 ?_
  refine lv_sipush (v := (9999 : Int32)) hx hb dX0_withYear_8 qs_9999 ?_
  refine rcSv (as := [.int p1, .int (-9999 : Int32), .int (9999 : Int32)]) (rest := []) C (c_X0_checkRange l G p1 (-9999 : Int32) (9999 : Int32) r1 q1) F_X0_checkRange rfl bw308 bw309 (hE.S hS hAB) vpn hl.1 dX0_withYear_11 ⟨Nat.le_of_ble_eq_true rfl, Nat.le_of_ble_eq_true rfl⟩ rfl (Nat.le_of_ble_eq_true rfl) ⟨Nat.le_of_ble_eq_true rfl, Nat.le_of_ble_eq_true rfl⟩ ?_
  refine lv_aload_n hx hb dX0_withYear_14 rfl (lv_at hl 0 rfl) ?_
  refine lv_iload_n hx hb dX0_withYear_15 rfl (lv_at hl 1 rfl) ?_
  refine lv_iload_n hx hb dX0_withYear_16 rfl (lv_at hl 2 rfl) ?_
  refine lv_aload_n hx hb dX0_withYear_17 rfl (lv_at hl 0 rfl) ?_
  refine va_get (D := gD G) (cl := vwCl) (tys := gT G) (ci := 2) (v := .ref (a 2)) (C := RX0) (T := TX0) (N := 12) hx hb hw inB_X0 hown hE.K hP 0 rfl rfl 1 (by decide) (hw _ bw95) (fun _ h9 => h9) rfl dX0_withYear_18 ?_
  refine lv_iload_n hx hb dX0_withYear_21 rfl (lv_at hl 1 rfl) ?_
  refine va_iald (tys := gT G) hx hb hE.K hP 2 0 rfl rfl h0 dX0_withYear_22 ?_
  refine wcVi (as := [.int p0, .int p1, .int ((xm S) p0.toNatClampNeg)]) (rest := []) (cl := RX0) C (c_X0_becomeMonth l G a S p0 p1 ((xm S) p0.toNatClampNeg) h0) F_X0_becomeMonth rfl bw471 bw473 bw23 (hE.S hS hAB) hP hD hS hA hAB (rv2 hE.K hP (q0 := 0) rfl) hl.1 dX0_withYear_23 ⟨Nat.le_of_ble_eq_true rfl, Nat.le_of_ble_eq_true rfl⟩ rfl (Nat.le_of_ble_eq_true rfl) ⟨Nat.le_of_ble_eq_true rfl, Nat.le_of_ble_eq_true rfl⟩ (fun H locs hP hD hS => ?_)
  exact we_i (wf := wX G a) hx hb hr hk hP hD hS (Nat.le_of_ble_eq_true rfl) (Nat.le_of_ble_eq_true rfl) dX0_withYear_26 rfl

set_option maxRecDepth 100000 in
set_option maxHeartbeats 4000000 in
theorem c_X0_withMonth (l : Launch) (G : GT) (a : Nat → Nat) (S : SX) (p0 : Int32) (p1 : Int32) (h0 : vp_in p0 6) (r1 : ¬ p1 < (1 : Int32)) (q1 : p1 ≤ (12 : Int32)) : WR l G yX0_withMonth cX0_withMonth 3 (some .int) 8 0 0 [.ref (a 0), .int p0, .int p1] (wX G a S) (wX G a (gX0_withMonth S p0 p1).2) (some (.int (gX0_withMonth S p0 p1).1)) := by
  refine WR.ofW (own := RX0) rfl (plainFor_of_name pnN_RX0) (Nat.le_of_ble_eq_true rfl) ?_
  intro p e s m below meth c A C hr hk hnm hE hP hD hA hAB hS ls hl
  have hx := C.1
  have hb := C.2.1
  have hown := C.2.2.2.1
  have hw := C.2.2.2.2
  have hl : lv_has ls 3 [(0, .ref (a 0)), (1, .int p0), (2, .int p1)] := hl
  refine lv_iload_n hx hb dX0_withMonth_0 rfl (lv_at hl 1 rfl) ?_
  refine rcSv (as := [.int p0]) (rest := []) C (c_X0_checkMoment l G p0 h0) F_X0_checkMoment rfl bw387 bw388 (hE.S hS hAB) vpn hl.1 dX0_withMonth_1 ⟨Nat.le_of_ble_eq_true rfl, Nat.le_of_ble_eq_true rfl⟩ rfl (Nat.le_of_ble_eq_true rfl) ⟨Nat.le_of_ble_eq_true rfl, Nat.le_of_ble_eq_true rfl⟩ ?_
  refine lv_iload_n hx hb dX0_withMonth_4 rfl (lv_at hl 2 rfl) ?_
  refine lv_iconst (v := (1 : Int32)) hx hb dX0_withMonth_5 qi_1 ?_
  refine lv_bipush (v := (12 : Int32)) hx hb dX0_withMonth_6 qb_12 ?_
  refine rcSv (as := [.int p1, .int (1 : Int32), .int (12 : Int32)]) (rest := []) C (c_X0_checkRange l G p1 (1 : Int32) (12 : Int32) r1 q1) F_X0_checkRange rfl bw308 bw309 (hE.S hS hAB) vpn hl.1 dX0_withMonth_8 ⟨Nat.le_of_ble_eq_true rfl, Nat.le_of_ble_eq_true rfl⟩ rfl (Nat.le_of_ble_eq_true rfl) ⟨Nat.le_of_ble_eq_true rfl, Nat.le_of_ble_eq_true rfl⟩ ?_
  refine lv_aload_n hx hb dX0_withMonth_11 rfl (lv_at hl 0 rfl) ?_
  refine lv_iload_n hx hb dX0_withMonth_12 rfl (lv_at hl 1 rfl) ?_
  refine lv_aload_n hx hb dX0_withMonth_13 rfl (lv_at hl 0 rfl) ?_
  refine va_get (D := gD G) (cl := vwCl) (tys := gT G) (ci := 2) (v := .ref (a 1)) (C := RX0) (T := TX0) (N := 12) hx hb hw inB_X0 hown hE.K hP 0 rfl rfl 0 (by decide) (hw _ bw94) (fun _ h9 => h9) rfl dX0_withMonth_14 ?_
  refine lv_iload_n hx hb dX0_withMonth_17 rfl (lv_at hl 1 rfl) ?_
  refine va_iald (tys := gT G) hx hb hE.K hP 1 0 rfl rfl h0 dX0_withMonth_18 ?_
  refine lv_iload_n hx hb dX0_withMonth_19 rfl (lv_at hl 2 rfl) ?_
  refine wcVi (as := [.int p0, .int ((xy S) p0.toNatClampNeg), .int p1]) (rest := []) (cl := RX0) C (c_X0_becomeMonth l G a S p0 ((xy S) p0.toNatClampNeg) p1 h0) F_X0_becomeMonth rfl bw471 bw473 bw23 (hE.S hS hAB) hP hD hS hA hAB (rv2 hE.K hP (q0 := 0) rfl) hl.1 dX0_withMonth_20 ⟨Nat.le_of_ble_eq_true rfl, Nat.le_of_ble_eq_true rfl⟩ rfl (Nat.le_of_ble_eq_true rfl) ⟨Nat.le_of_ble_eq_true rfl, Nat.le_of_ble_eq_true rfl⟩ (fun H locs hP hD hS => ?_)
  exact we_i (wf := wX G a) hx hb hr hk hP hD hS (Nat.le_of_ble_eq_true rfl) (Nat.le_of_ble_eq_true rfl) dX0_withMonth_23 rfl

set_option maxRecDepth 100000 in
set_option maxHeartbeats 4000000 in
theorem c_X0_withDayOfMonth (l : Launch) (G : GT) (a : Nat → Nat) (S : SX) (p0 : Int32) (p1 : Int32) (h0 : vp_in p0 6) (r1 : ¬ p1 < (1 : Int32)) (q1 : p1 ≤ (31 : Int32)) : WR l G yX0_withDayOfMonth cX0_withDayOfMonth 3 (some .int) 8 0 0 [.ref (a 0), .int p0, .int p1] (wX G a S) (wX G a (gX0_withDayOfMonth S p0 p1).2) (some (.int (gX0_withDayOfMonth S p0 p1).1)) := by
  refine WR.ofW (own := RX0) rfl (plainFor_of_name pnN_RX0) (Nat.le_of_ble_eq_true rfl) ?_
  intro p e s m below meth c A C hr hk hnm hE hP hD hA hAB hS ls hl
  have hx := C.1
  have hb := C.2.1
  have hown := C.2.2.2.1
  have hw := C.2.2.2.2
  have hl : lv_has ls 3 [(0, .ref (a 0)), (1, .int p0), (2, .int p1)] := hl
  refine lv_iload_n hx hb dX0_withDayOfMonth_0 rfl (lv_at hl 1 rfl) ?_
  refine rcSv (as := [.int p0]) (rest := []) C (c_X0_checkMoment l G p0 h0) F_X0_checkMoment rfl bw387 bw388 (hE.S hS hAB) vpn hl.1 dX0_withDayOfMonth_1 ⟨Nat.le_of_ble_eq_true rfl, Nat.le_of_ble_eq_true rfl⟩ rfl (Nat.le_of_ble_eq_true rfl) ⟨Nat.le_of_ble_eq_true rfl, Nat.le_of_ble_eq_true rfl⟩ ?_
  refine lv_iload_n hx hb dX0_withDayOfMonth_4 rfl (lv_at hl 2 rfl) ?_
  refine lv_iconst (v := (1 : Int32)) hx hb dX0_withDayOfMonth_5 qi_1 ?_
  refine lv_bipush (v := (31 : Int32)) hx hb dX0_withDayOfMonth_6 qb_31 ?_
  refine rcSv (as := [.int p1, .int (1 : Int32), .int (31 : Int32)]) (rest := []) C (c_X0_checkRange l G p1 (1 : Int32) (31 : Int32) r1 q1) F_X0_checkRange rfl bw308 bw309 (hE.S hS hAB) vpn hl.1 dX0_withDayOfMonth_8 ⟨Nat.le_of_ble_eq_true rfl, Nat.le_of_ble_eq_true rfl⟩ rfl (Nat.le_of_ble_eq_true rfl) ⟨Nat.le_of_ble_eq_true rfl, Nat.le_of_ble_eq_true rfl⟩ ?_
  refine lv_aload_n hx hb dX0_withDayOfMonth_11 rfl (lv_at hl 0 rfl) ?_
  refine lv_iload_n hx hb dX0_withDayOfMonth_12 rfl (lv_at hl 1 rfl) ?_
  refine lv_aload_n hx hb dX0_withDayOfMonth_13 rfl (lv_at hl 0 rfl) ?_
  refine va_get (D := gD G) (cl := vwCl) (tys := gT G) (ci := 2) (v := .ref (a 1)) (C := RX0) (T := TX0) (N := 12) hx hb hw inB_X0 hown hE.K hP 0 rfl rfl 0 (by decide) (hw _ bw94) (fun _ h9 => h9) rfl dX0_withDayOfMonth_14 ?_
  refine lv_iload_n hx hb dX0_withDayOfMonth_17 rfl (lv_at hl 1 rfl) ?_
  refine va_iald (tys := gT G) hx hb hE.K hP 1 0 rfl rfl h0 dX0_withDayOfMonth_18 ?_
  refine lv_aload_n hx hb dX0_withDayOfMonth_19 rfl (lv_at hl 0 rfl) ?_
  refine va_get (D := gD G) (cl := vwCl) (tys := gT G) (ci := 2) (v := .ref (a 2)) (C := RX0) (T := TX0) (N := 12) hx hb hw inB_X0 hown hE.K hP 0 rfl rfl 1 (by decide) (hw _ bw95) (fun _ h9 => h9) rfl dX0_withDayOfMonth_20 ?_
  refine lv_iload_n hx hb dX0_withDayOfMonth_23 rfl (lv_at hl 1 rfl) ?_
  refine va_iald (tys := gT G) hx hb hE.K hP 2 0 rfl rfl h0 dX0_withDayOfMonth_24 ?_
  refine lv_iload_n hx hb dX0_withDayOfMonth_25 rfl (lv_at hl 2 rfl) ?_
  refine lv_aload_n hx hb dX0_withDayOfMonth_26 rfl (lv_at hl 0 rfl) ?_
  refine va_get (D := gD G) (cl := vwCl) (tys := gT G) (ci := 2) (v := .ref (a 5)) (C := RX0) (T := TX0) (N := 12) hx hb hw inB_X0 hown hE.K hP 0 rfl rfl 4 (by decide) (hw _ bw98) (fun _ h9 => h9) rfl dX0_withDayOfMonth_27 ?_
  refine lv_iload_n hx hb dX0_withDayOfMonth_30 rfl (lv_at hl 1 rfl) ?_
  refine va_lald (tys := gT G) hx hb hE.K hP 5 1 rfl rfl h0 dX0_withDayOfMonth_31 ?_
  refine wcVi (as := [.int p0, .int ((xy S) p0.toNatClampNeg), .int ((xm S) p0.toNatClampNeg), .int p1, .long ((xN S) p0.toNatClampNeg)]) (rest := []) (cl := RX0) C (c_X0_becomeDate l G a S p0 ((xy S) p0.toNatClampNeg) ((xm S) p0.toNatClampNeg) p1 ((xN S) p0.toNatClampNeg) h0) F_X0_becomeDate rfl bw410 bw412 bw19 (hE.S hS hAB) hP hD hS hA hAB (rv2 hE.K hP (q0 := 0) rfl) hl.1 dX0_withDayOfMonth_32 ⟨Nat.le_of_ble_eq_true rfl, Nat.le_of_ble_eq_true rfl⟩ rfl (Nat.le_of_ble_eq_true rfl) ⟨Nat.le_of_ble_eq_true rfl, Nat.le_of_ble_eq_true rfl⟩ (fun H locs hP hD hS => ?_)
  exact we_i (wf := wX G a) hx hb hr hk hP hD hS (Nat.le_of_ble_eq_true rfl) (Nat.le_of_ble_eq_true rfl) dX0_withDayOfMonth_35 rfl

set_option maxRecDepth 100000 in
set_option maxHeartbeats 4000000 in
theorem c_X0_withDayOfYear (l : Launch) (G : GT) (a : Nat → Nat) (S : SX) (p0 : Int32) (p1 : Int32) (h0 : vp_in p0 6) (r1 : ¬ p1 < (1 : Int32)) (q1 : p1 ≤ (366 : Int32)) : WR l G yX0_withDayOfYear cX0_withDayOfYear 3 (some .int) 8 0 0 [.ref (a 0), .int p0, .int p1] (wX G a S) (wX G a (gX0_withDayOfYear S p0 p1).2) (some (.int (gX0_withDayOfYear S p0 p1).1)) := by
  refine WR.ofW (own := RX0) rfl (plainFor_of_name pnN_RX0) (Nat.le_of_ble_eq_true rfl) ?_
  intro p e s m below meth c A C hr hk hnm hE hP hD hA hAB hS ls hl
  have hx := C.1
  have hb := C.2.1
  have hown := C.2.2.2.1
  have hw := C.2.2.2.2
  have hl : lv_has ls 3 [(0, .ref (a 0)), (1, .int p0), (2, .int p1)] := hl
  refine lv_iload_n hx hb dX0_withDayOfYear_0 rfl (lv_at hl 1 rfl) ?_
  refine rcSv (as := [.int p0]) (rest := []) C (c_X0_checkMoment l G p0 h0) F_X0_checkMoment rfl bw387 bw388 (hE.S hS hAB) vpn hl.1 dX0_withDayOfYear_1 ⟨Nat.le_of_ble_eq_true rfl, Nat.le_of_ble_eq_true rfl⟩ rfl (Nat.le_of_ble_eq_true rfl) ⟨Nat.le_of_ble_eq_true rfl, Nat.le_of_ble_eq_true rfl⟩ ?_
  refine lv_iload_n hx hb dX0_withDayOfYear_4 rfl (lv_at hl 2 rfl) ?_
  refine lv_iconst (v := (1 : Int32)) hx hb dX0_withDayOfYear_5 qi_1 ?_
  refine lv_sipush (v := (366 : Int32)) hx hb dX0_withDayOfYear_6 qs_366 ?_
  refine rcSv (as := [.int p1, .int (1 : Int32), .int (366 : Int32)]) (rest := []) C (c_X0_checkRange l G p1 (1 : Int32) (366 : Int32) r1 q1) F_X0_checkRange rfl bw308 bw309 (hE.S hS hAB) vpn hl.1 dX0_withDayOfYear_9 ⟨Nat.le_of_ble_eq_true rfl, Nat.le_of_ble_eq_true rfl⟩ rfl (Nat.le_of_ble_eq_true rfl) ⟨Nat.le_of_ble_eq_true rfl, Nat.le_of_ble_eq_true rfl⟩ ?_
  refine lv_iload_n hx hb dX0_withDayOfYear_12 rfl (lv_at hl 2 rfl) ?_
  refine lv_aload_n hx hb dX0_withDayOfYear_13 rfl (lv_at hl 0 rfl) ?_
  refine va_get (D := gD G) (cl := vwCl) (tys := gT G) (ci := 2) (v := .ref (a 1)) (C := RX0) (T := TX0) (N := 12) hx hb hw inB_X0 hown hE.K hP 0 rfl rfl 0 (by decide) (hw _ bw94) (fun _ h9 => h9) rfl dX0_withDayOfYear_14 ?_
  refine lv_iload_n hx hb dX0_withDayOfYear_17 rfl (lv_at hl 1 rfl) ?_
  refine va_iald (tys := gT G) hx hb hE.K hP 1 0 rfl rfl h0 dX0_withDayOfYear_18 ?_
  refine rcSi (as := [.int ((xy S) p0.toNatClampNeg)]) (rest := [.int p1]) C (c_X0_yearLength l G ((xy S) p0.toNatClampNeg)) F_X0_yearLength rfl bw496 bw497 (hE.S hS hAB) vpn hl.1 dX0_withDayOfYear_19 ⟨Nat.le_of_ble_eq_true rfl, Nat.le_of_ble_eq_true rfl⟩ rfl (Nat.le_of_ble_eq_true rfl) ⟨Nat.le_of_ble_eq_true rfl, Nat.le_of_ble_eq_true rfl⟩ ?_
  refine lv_icmp_le (tgt := 30) hx hb dX0_withDayOfYear_22 (by decide) (fun c_1 => ?_) (fun c_1 => ?_)
  · refine lv_aload_n hx hb dX0_withDayOfYear_30 rfl (lv_at hl 0 rfl) ?_
    refine lv_iload_n hx hb dX0_withDayOfYear_31 rfl (lv_at hl 1 rfl) ?_
    refine lv_aload_n hx hb dX0_withDayOfYear_32 rfl (lv_at hl 0 rfl) ?_
    refine va_get (D := gD G) (cl := vwCl) (tys := gT G) (ci := 2) (v := .ref (a 1)) (C := RX0) (T := TX0) (N := 12) hx hb hw inB_X0 hown hE.K hP 0 rfl rfl 0 (by decide) (hw _ bw94) (fun _ h9 => h9) rfl dX0_withDayOfYear_33 ?_
    refine lv_iload_n hx hb dX0_withDayOfYear_36 rfl (lv_at hl 1 rfl) ?_
    refine va_iald (tys := gT G) hx hb hE.K hP 1 0 rfl rfl h0 dX0_withDayOfYear_37 ?_
    refine rcSl (as := [.int ((xy S) p0.toNatClampNeg)]) (rest := [.int p0, .ref (a 0)]) C (c_X0_firstDayOf l G ((xy S) p0.toNatClampNeg)) F_X0_firstDayOf rfl bw86 bw87 (hE.S hS hAB) vpn hl.1 dX0_withDayOfYear_38 ⟨Nat.le_of_ble_eq_true rfl, Nat.le_of_ble_eq_true rfl⟩ rfl (Nat.le_of_ble_eq_true rfl) ⟨Nat.le_of_ble_eq_true rfl, Nat.le_of_ble_eq_true rfl⟩ ?_
    refine lv_iload_n hx hb dX0_withDayOfYear_41 rfl (lv_at hl 2 rfl) ?_
    refine lv_i2l (v := (p1.toInt64)) hx hb dX0_withDayOfYear_42 (by first | rfl | decide) ?_
    refine lv_ladd hx hb dX0_withDayOfYear_43 ?_
    refine lv_lconst (v := (1 : Int64)) hx hb dX0_withDayOfYear_44 ql_1 ?_
    refine lv_lsub hx hb dX0_withDayOfYear_45 ?_
    refine lv_aload_n hx hb dX0_withDayOfYear_46 rfl (lv_at hl 0 rfl) ?_
    refine va_get (D := gD G) (cl := vwCl) (tys := gT G) (ci := 2) (v := .ref (a 5)) (C := RX0) (T := TX0) (N := 12) hx hb hw inB_X0 hown hE.K hP 0 rfl rfl 4 (by decide) (hw _ bw98) (fun _ h9 => h9) rfl dX0_withDayOfYear_47 ?_
    refine lv_iload_n hx hb dX0_withDayOfYear_50 rfl (lv_at hl 1 rfl) ?_
    refine va_lald (tys := gT G) hx hb hE.K hP 5 1 rfl rfl h0 dX0_withDayOfYear_51 ?_
    refine wcVi (as := [.int p0, .long (((fX0_firstDayOf ((xy S) p0.toNatClampNeg)) + (p1.toInt64)) - (1 : Int64)), .long ((xN S) p0.toNatClampNeg)]) (rest := []) (cl := RX0) C (c_X0_becomeDay l G a S p0 (((fX0_firstDayOf ((xy S) p0.toNatClampNeg)) + (p1.toInt64)) - (1 : Int64)) ((xN S) p0.toNatClampNeg) h0) F_X0_becomeDay rfl bw427 bw429 bw21 (hE.S hS hAB) hP hD hS hA hAB (rv2 hE.K hP (q0 := 0) rfl) hl.1 dX0_withDayOfYear_52 ⟨Nat.le_of_ble_eq_true rfl, Nat.le_of_ble_eq_true rfl⟩ rfl (Nat.le_of_ble_eq_true rfl) ⟨Nat.le_of_ble_eq_true rfl, Nat.le_of_ble_eq_true rfl⟩ (fun H locs hP hD hS => ?_)
    exact we_i (wf := wX G a) hx hb hr hk hP hD hS (Nat.le_of_ble_eq_true rfl) (Nat.le_of_ble_eq_true rfl) dX0_withDayOfYear_55 (if_pos c_1)
  · refine lv_aload_n hx hb dX0_withDayOfYear_25 rfl (lv_at hl 0 rfl) ?_
    refine wcVi (as := []) (rest := []) (cl := RX0) C (c_X0_refuse l G a S) F_X0_refuse rfl bw414 bw416 bw20 (hE.S hS hAB) hP hD hS hA hAB (rv2 hE.K hP (q0 := 0) rfl) hl.1 dX0_withDayOfYear_26 ⟨Nat.le_of_ble_eq_true rfl, Nat.le_of_ble_eq_true rfl⟩ rfl (Nat.le_of_ble_eq_true rfl) ⟨Nat.le_of_ble_eq_true rfl, Nat.le_of_ble_eq_true rfl⟩ (fun H locs hP hD hS => ?_)
    exact we_i (wf := wX G a) hx hb hr hk hP hD hS (Nat.le_of_ble_eq_true rfl) (Nat.le_of_ble_eq_true rfl) dX0_withDayOfYear_29 (if_neg c_1)

set_option maxRecDepth 100000 in
set_option maxHeartbeats 4000000 in
theorem c_X0_withHour (l : Launch) (G : GT) (a : Nat → Nat) (S : SX) (p0 : Int32) (p1 : Int32) (h0 : vp_in p0 6) (r1 : ¬ p1 < (0 : Int32)) (q1 : p1 ≤ (23 : Int32)) : WR l G yX0_withHour cX0_withHour 5 (some .int) 8 0 0 [.ref (a 0), .int p0, .int p1] (wX G a S) (wX G a (gX0_withHour S p0 p1).2) (some (.int (gX0_withHour S p0 p1).1)) := by
  refine WR.ofW (own := RX0) rfl (plainFor_of_name pnN_RX0) (Nat.le_of_ble_eq_true rfl) ?_
  intro p e s m below meth c A C hr hk hnm hE hP hD hA hAB hS ls hl
  have hx := C.1
  have hb := C.2.1
  have hown := C.2.2.2.1
  have hw := C.2.2.2.2
  have hl : lv_has ls 5 [(0, .ref (a 0)), (1, .int p0), (2, .int p1)] := hl
  refine lv_iload_n hx hb dX0_withHour_0 rfl (lv_at hl 1 rfl) ?_
  refine rcSv (as := [.int p0]) (rest := []) C (c_X0_checkMoment l G p0 h0) F_X0_checkMoment rfl bw387 bw388 (hE.S hS hAB) vpn hl.1 dX0_withHour_1 ⟨Nat.le_of_ble_eq_true rfl, Nat.le_of_ble_eq_true rfl⟩ rfl (Nat.le_of_ble_eq_true rfl) ⟨Nat.le_of_ble_eq_true rfl, Nat.le_of_ble_eq_true rfl⟩ ?_
  refine lv_iload_n hx hb dX0_withHour_4 rfl (lv_at hl 2 rfl) ?_
  refine lv_iconst (v := (0 : Int32)) hx hb dX0_withHour_5 qi_0 ?_
  refine lv_bipush (v := (23 : Int32)) hx hb dX0_withHour_6 qb_23 ?_
  refine rcSv (as := [.int p1, .int (0 : Int32), .int (23 : Int32)]) (rest := []) C (c_X0_checkRange l G p1 (0 : Int32) (23 : Int32) r1 q1) F_X0_checkRange rfl bw308 bw309 (hE.S hS hAB) vpn hl.1 dX0_withHour_8 ⟨Nat.le_of_ble_eq_true rfl, Nat.le_of_ble_eq_true rfl⟩ rfl (Nat.le_of_ble_eq_true rfl) ⟨Nat.le_of_ble_eq_true rfl, Nat.le_of_ble_eq_true rfl⟩ ?_
  refine lv_aload_n hx hb dX0_withHour_11 rfl (lv_at hl 0 rfl) ?_
  refine va_get (D := gD G) (cl := vwCl) (tys := gT G) (ci := 2) (v := .ref (a 5)) (C := RX0) (T := TX0) (N := 12) hx hb hw inB_X0 hown hE.K hP 0 rfl rfl 4 (by decide) (hw _ bw98) (fun _ h9 => h9) rfl dX0_withHour_12 ?_
  refine lv_iload_n hx hb dX0_withHour_15 rfl (lv_at hl 1 rfl) ?_
  refine va_lald (tys := gT G) hx hb hE.K hP 5 1 rfl rfl h0 dX0_withHour_16 ?_
  refine lv_lstore_n (lv' := [(3, .long ((xN S) p0.toNatClampNeg)), (0, .ref (a 0)), (1, .int p0), (2, .int p1)]) hx hb dX0_withHour_17 rfl hl (Nat.le_of_ble_eq_true rfl) rfl (fun ls hl => ?_)
  refine lv_aload_n hx hb dX0_withHour_18 rfl (lv_at hl 1 rfl) ?_
  refine lv_iload_n hx hb dX0_withHour_19 rfl (lv_at hl 2 rfl) ?_
  refine lv_iload_n hx hb dX0_withHour_20 rfl (lv_at hl 2 rfl) ?_
  refine lv_lload_n hx hb dX0_withHour_21 rfl (lv_at hl 0 rfl) ?_
  refine lv_iload_n hx hb dX0_withHour_22 rfl (lv_at hl 3 rfl) ?_
  refine lv_lload_n hx hb dX0_withHour_23 rfl (lv_at hl 0 rfl) ?_
  refine rcSi (as := [.long ((xN S) p0.toNatClampNeg)]) (rest := [.int p1, .long ((xN S) p0.toNatClampNeg), .int p0, .int p0, .ref (a 0)]) C (c_X0_hourOf l G ((xN S) p0.toNatClampNeg)) F_X0_hourOf rfl bw149 bw150 (hE.S hS hAB) vpn hl.1 dX0_withHour_24 ⟨Nat.le_of_ble_eq_true rfl, Nat.le_of_ble_eq_true rfl⟩ rfl (Nat.le_of_ble_eq_true rfl) ⟨Nat.le_of_ble_eq_true rfl, Nat.le_of_ble_eq_true rfl⟩ ?_
  refine lv_isub hx hb dX0_withHour_27 ?_
  refine lv_i2l (v := ((p1 - (fX0_hourOf ((xN S) p0.toNatClampNeg))).toInt64)) hx hb dX0_withHour_28 (by first | rfl | decide) ?_
  refine lv_ldc2 (v := (3600000000000 : Int64)) hx hb hown (hw _ bw152) dX0_withHour_29 ?_
  refine lv_lmul hx hb dX0_withHour_32 ?_
  refine lv_ladd hx hb dX0_withHour_33 ?_
  refine wcVi (as := [.int p0, .int p0, .long (((xN S) p0.toNatClampNeg) + (((p1 - (fX0_hourOf ((xN S) p0.toNatClampNeg))).toInt64) * (3600000000000 : Int64)))]) (rest := []) (cl := RX0) C (c_X0_becomeAs l G a S p0 p0 (((xN S) p0.toNatClampNeg) + (((p1 - (fX0_hourOf ((xN S) p0.toNatClampNeg))).toInt64) * (3600000000000 : Int64))) h0 h0) F_X0_becomeAs rfl bw446 bw448 bw22 (hE.S hS hAB) hP hD hS hA hAB (rv2 hE.K hP (q0 := 0) rfl) hl.1 dX0_withHour_34 ⟨Nat.le_of_ble_eq_true rfl, Nat.le_of_ble_eq_true rfl⟩ rfl (Nat.le_of_ble_eq_true rfl) ⟨Nat.le_of_ble_eq_true rfl, Nat.le_of_ble_eq_true rfl⟩ (fun H locs hP hD hS => ?_)
  exact we_i (wf := wX G a) hx hb hr hk hP hD hS (Nat.le_of_ble_eq_true rfl) (Nat.le_of_ble_eq_true rfl) dX0_withHour_37 rfl

set_option maxRecDepth 100000 in
set_option maxHeartbeats 4000000 in
theorem c_X0_withMinute (l : Launch) (G : GT) (a : Nat → Nat) (S : SX) (p0 : Int32) (p1 : Int32) (h0 : vp_in p0 6) (r1 : ¬ p1 < (0 : Int32)) (q1 : p1 ≤ (59 : Int32)) : WR l G yX0_withMinute cX0_withMinute 5 (some .int) 8 0 0 [.ref (a 0), .int p0, .int p1] (wX G a S) (wX G a (gX0_withMinute S p0 p1).2) (some (.int (gX0_withMinute S p0 p1).1)) := by
  refine WR.ofW (own := RX0) rfl (plainFor_of_name pnN_RX0) (Nat.le_of_ble_eq_true rfl) ?_
  intro p e s m below meth c A C hr hk hnm hE hP hD hA hAB hS ls hl
  have hx := C.1
  have hb := C.2.1
  have hown := C.2.2.2.1
  have hw := C.2.2.2.2
  have hl : lv_has ls 5 [(0, .ref (a 0)), (1, .int p0), (2, .int p1)] := hl
  refine lv_iload_n hx hb dX0_withMinute_0 rfl (lv_at hl 1 rfl) ?_
  refine rcSv (as := [.int p0]) (rest := []) C (c_X0_checkMoment l G p0 h0) F_X0_checkMoment rfl bw387 bw388 (hE.S hS hAB) vpn hl.1 dX0_withMinute_1 ⟨Nat.le_of_ble_eq_true rfl, Nat.le_of_ble_eq_true rfl⟩ rfl (Nat.le_of_ble_eq_true rfl) ⟨Nat.le_of_ble_eq_true rfl, Nat.le_of_ble_eq_true rfl⟩ ?_
  refine lv_iload_n hx hb dX0_withMinute_4 rfl (lv_at hl 2 rfl) ?_
  refine lv_iconst (v := (0 : Int32)) hx hb dX0_withMinute_5 qi_0 ?_
  refine lv_bipush (v := (59 : Int32)) hx hb dX0_withMinute_6 qb_59 ?_
  refine rcSv (as := [.int p1, .int (0 : Int32), .int (59 : Int32)]) (rest := []) C (c_X0_checkRange l G p1 (0 : Int32) (59 : Int32) r1 q1) F_X0_checkRange rfl bw308 bw309 (hE.S hS hAB) vpn hl.1 dX0_withMinute_8 ⟨Nat.le_of_ble_eq_true rfl, Nat.le_of_ble_eq_true rfl⟩ rfl (Nat.le_of_ble_eq_true rfl) ⟨Nat.le_of_ble_eq_true rfl, Nat.le_of_ble_eq_true rfl⟩ ?_
  refine lv_aload_n hx hb dX0_withMinute_11 rfl (lv_at hl 0 rfl) ?_
  refine va_get (D := gD G) (cl := vwCl) (tys := gT G) (ci := 2) (v := .ref (a 5)) (C := RX0) (T := TX0) (N := 12) hx hb hw inB_X0 hown hE.K hP 0 rfl rfl 4 (by decide) (hw _ bw98) (fun _ h9 => h9) rfl dX0_withMinute_12 ?_
  refine lv_iload_n hx hb dX0_withMinute_15 rfl (lv_at hl 1 rfl) ?_
  refine va_lald (tys := gT G) hx hb hE.K hP 5 1 rfl rfl h0 dX0_withMinute_16 ?_
  refine lv_lstore_n (lv' := [(3, .long ((xN S) p0.toNatClampNeg)), (0, .ref (a 0)), (1, .int p0), (2, .int p1)]) hx hb dX0_withMinute_17 rfl hl (Nat.le_of_ble_eq_true rfl) rfl (fun ls hl => ?_)
  refine lv_aload_n hx hb dX0_withMinute_18 rfl (lv_at hl 1 rfl) ?_
  refine lv_iload_n hx hb dX0_withMinute_19 rfl (lv_at hl 2 rfl) ?_
  refine lv_iload_n hx hb dX0_withMinute_20 rfl (lv_at hl 2 rfl) ?_
  refine lv_lload_n hx hb dX0_withMinute_21 rfl (lv_at hl 0 rfl) ?_
  refine lv_iload_n hx hb dX0_withMinute_22 rfl (lv_at hl 3 rfl) ?_
  refine lv_lload_n hx hb dX0_withMinute_23 rfl (lv_at hl 0 rfl) ?_
  refine rcSi (as := [.long ((xN S) p0.toNatClampNeg)]) (rest := [.int p1, .long ((xN S) p0.toNatClampNeg), .int p0, .int p0, .ref (a 0)]) C (c_X0_minuteOf l G ((xN S) p0.toNatClampNeg)) F_X0_minuteOf rfl bw153 bw154 (hE.S hS hAB) vpn hl.1 dX0_withMinute_24 ⟨Nat.le_of_ble_eq_true rfl, Nat.le_of_ble_eq_true rfl⟩ rfl (Nat.le_of_ble_eq_true rfl) ⟨Nat.le_of_ble_eq_true rfl, Nat.le_of_ble_eq_true rfl⟩ ?_
  refine lv_isub hx hb dX0_withMinute_27 ?_
  refine lv_i2l (v := ((p1 - (fX0_minuteOf ((xN S) p0.toNatClampNeg))).toInt64)) hx hb dX0_withMinute_28 (by first | rfl | decide) ?_
  refine lv_ldc2 (v := (60000000000 : Int64)) hx hb hown (hw _ bw156) dX0_withMinute_29 ?_
  refine lv_lmul hx hb dX0_withMinute_32 ?_
  refine lv_ladd hx hb dX0_withMinute_33 ?_
  refine wcVi (as := [.int p0, .int p0, .long (((xN S) p0.toNatClampNeg) + (((p1 - (fX0_minuteOf ((xN S) p0.toNatClampNeg))).toInt64) * (60000000000 : Int64)))]) (rest := []) (cl := RX0) C (c_X0_becomeAs l G a S p0 p0 (((xN S) p0.toNatClampNeg) + (((p1 - (fX0_minuteOf ((xN S) p0.toNatClampNeg))).toInt64) * (60000000000 : Int64))) h0 h0) F_X0_becomeAs rfl bw446 bw448 bw22 (hE.S hS hAB) hP hD hS hA hAB (rv2 hE.K hP (q0 := 0) rfl) hl.1 dX0_withMinute_34 ⟨Nat.le_of_ble_eq_true rfl, Nat.le_of_ble_eq_true rfl⟩ rfl (Nat.le_of_ble_eq_true rfl) ⟨Nat.le_of_ble_eq_true rfl, Nat.le_of_ble_eq_true rfl⟩ (fun H locs hP hD hS => ?_)
  exact we_i (wf := wX G a) hx hb hr hk hP hD hS (Nat.le_of_ble_eq_true rfl) (Nat.le_of_ble_eq_true rfl) dX0_withMinute_37 rfl

set_option maxRecDepth 100000 in
set_option maxHeartbeats 4000000 in
theorem c_X0_withSecond (l : Launch) (G : GT) (a : Nat → Nat) (S : SX) (p0 : Int32) (p1 : Int32) (h0 : vp_in p0 6) (r1 : ¬ p1 < (0 : Int32)) (q1 : p1 ≤ (59 : Int32)) : WR l G yX0_withSecond cX0_withSecond 5 (some .int) 8 0 0 [.ref (a 0), .int p0, .int p1] (wX G a S) (wX G a (gX0_withSecond S p0 p1).2) (some (.int (gX0_withSecond S p0 p1).1)) := by
  refine WR.ofW (own := RX0) rfl (plainFor_of_name pnN_RX0) (Nat.le_of_ble_eq_true rfl) ?_
  intro p e s m below meth c A C hr hk hnm hE hP hD hA hAB hS ls hl
  have hx := C.1
  have hb := C.2.1
  have hown := C.2.2.2.1
  have hw := C.2.2.2.2
  have hl : lv_has ls 5 [(0, .ref (a 0)), (1, .int p0), (2, .int p1)] := hl
  refine lv_iload_n hx hb dX0_withSecond_0 rfl (lv_at hl 1 rfl) ?_
  refine rcSv (as := [.int p0]) (rest := []) C (c_X0_checkMoment l G p0 h0) F_X0_checkMoment rfl bw387 bw388 (hE.S hS hAB) vpn hl.1 dX0_withSecond_1 ⟨Nat.le_of_ble_eq_true rfl, Nat.le_of_ble_eq_true rfl⟩ rfl (Nat.le_of_ble_eq_true rfl) ⟨Nat.le_of_ble_eq_true rfl, Nat.le_of_ble_eq_true rfl⟩ ?_
  refine lv_iload_n hx hb dX0_withSecond_4 rfl (lv_at hl 2 rfl) ?_
  refine lv_iconst (v := (0 : Int32)) hx hb dX0_withSecond_5 qi_0 ?_
  refine lv_bipush (v := (59 : Int32)) hx hb dX0_withSecond_6 qb_59 ?_
  refine rcSv (as := [.int p1, .int (0 : Int32), .int (59 : Int32)]) (rest := []) C (c_X0_checkRange l G p1 (0 : Int32) (59 : Int32) r1 q1) F_X0_checkRange rfl bw308 bw309 (hE.S hS hAB) vpn hl.1 dX0_withSecond_8 ⟨Nat.le_of_ble_eq_true rfl, Nat.le_of_ble_eq_true rfl⟩ rfl (Nat.le_of_ble_eq_true rfl) ⟨Nat.le_of_ble_eq_true rfl, Nat.le_of_ble_eq_true rfl⟩ ?_
  refine lv_aload_n hx hb dX0_withSecond_11 rfl (lv_at hl 0 rfl) ?_
  refine va_get (D := gD G) (cl := vwCl) (tys := gT G) (ci := 2) (v := .ref (a 5)) (C := RX0) (T := TX0) (N := 12) hx hb hw inB_X0 hown hE.K hP 0 rfl rfl 4 (by decide) (hw _ bw98) (fun _ h9 => h9) rfl dX0_withSecond_12 ?_
  refine lv_iload_n hx hb dX0_withSecond_15 rfl (lv_at hl 1 rfl) ?_
  refine va_lald (tys := gT G) hx hb hE.K hP 5 1 rfl rfl h0 dX0_withSecond_16 ?_
  refine lv_lstore_n (lv' := [(3, .long ((xN S) p0.toNatClampNeg)), (0, .ref (a 0)), (1, .int p0), (2, .int p1)]) hx hb dX0_withSecond_17 rfl hl (Nat.le_of_ble_eq_true rfl) rfl (fun ls hl => ?_)
  refine lv_aload_n hx hb dX0_withSecond_18 rfl (lv_at hl 1 rfl) ?_
  refine lv_iload_n hx hb dX0_withSecond_19 rfl (lv_at hl 2 rfl) ?_
  refine lv_iload_n hx hb dX0_withSecond_20 rfl (lv_at hl 2 rfl) ?_
  refine lv_lload_n hx hb dX0_withSecond_21 rfl (lv_at hl 0 rfl) ?_
  refine lv_iload_n hx hb dX0_withSecond_22 rfl (lv_at hl 3 rfl) ?_
  refine lv_lload_n hx hb dX0_withSecond_23 rfl (lv_at hl 0 rfl) ?_
  refine rcSi (as := [.long ((xN S) p0.toNatClampNeg)]) (rest := [.int p1, .long ((xN S) p0.toNatClampNeg), .int p0, .int p0, .ref (a 0)]) C (c_X0_secondOf l G ((xN S) p0.toNatClampNeg)) F_X0_secondOf rfl bw157 bw158 (hE.S hS hAB) vpn hl.1 dX0_withSecond_24 ⟨Nat.le_of_ble_eq_true rfl, Nat.le_of_ble_eq_true rfl⟩ rfl (Nat.le_of_ble_eq_true rfl) ⟨Nat.le_of_ble_eq_true rfl, Nat.le_of_ble_eq_true rfl⟩ ?_
  refine lv_isub hx hb dX0_withSecond_27 ?_
  refine lv_i2l (v := ((p1 - (fX0_secondOf ((xN S) p0.toNatClampNeg))).toInt64)) hx hb dX0_withSecond_28 (by first | rfl | decide) ?_
  refine lv_ldc2 (v := (1000000000 : Int64)) hx hb hown (hw _ bw160) dX0_withSecond_29 ?_
  refine lv_lmul hx hb dX0_withSecond_32 ?_
  refine lv_ladd hx hb dX0_withSecond_33 ?_
  refine wcVi (as := [.int p0, .int p0, .long (((xN S) p0.toNatClampNeg) + (((p1 - (fX0_secondOf ((xN S) p0.toNatClampNeg))).toInt64) * (1000000000 : Int64)))]) (rest := []) (cl := RX0) C (c_X0_becomeAs l G a S p0 p0 (((xN S) p0.toNatClampNeg) + (((p1 - (fX0_secondOf ((xN S) p0.toNatClampNeg))).toInt64) * (1000000000 : Int64))) h0 h0) F_X0_becomeAs rfl bw446 bw448 bw22 (hE.S hS hAB) hP hD hS hA hAB (rv2 hE.K hP (q0 := 0) rfl) hl.1 dX0_withSecond_34 ⟨Nat.le_of_ble_eq_true rfl, Nat.le_of_ble_eq_true rfl⟩ rfl (Nat.le_of_ble_eq_true rfl) ⟨Nat.le_of_ble_eq_true rfl, Nat.le_of_ble_eq_true rfl⟩ (fun H locs hP hD hS => ?_)
  exact we_i (wf := wX G a) hx hb hr hk hP hD hS (Nat.le_of_ble_eq_true rfl) (Nat.le_of_ble_eq_true rfl) dX0_withSecond_37 rfl

set_option maxRecDepth 100000 in
set_option maxHeartbeats 4000000 in
theorem c_X0_withNano (l : Launch) (G : GT) (a : Nat → Nat) (S : SX) (p0 : Int32) (p1 : Int32) (h0 : vp_in p0 6) (r1 : ¬ p1 < (0 : Int32)) (q1 : p1 ≤ (999999999 : Int32)) : WR l G yX0_withNano cX0_withNano 5 (some .int) 8 0 0 [.ref (a 0), .int p0, .int p1] (wX G a S) (wX G a (gX0_withNano S p0 p1).2) (some (.int (gX0_withNano S p0 p1).1)) := by
  refine WR.ofW (own := RX0) rfl (plainFor_of_name pnN_RX0) (Nat.le_of_ble_eq_true rfl) ?_
  intro p e s m below meth c A C hr hk hnm hE hP hD hA hAB hS ls hl
  have hx := C.1
  have hb := C.2.1
  have hown := C.2.2.2.1
  have hw := C.2.2.2.2
  have hl : lv_has ls 5 [(0, .ref (a 0)), (1, .int p0), (2, .int p1)] := hl
  refine lv_iload_n hx hb dX0_withNano_0 rfl (lv_at hl 1 rfl) ?_
  refine rcSv (as := [.int p0]) (rest := []) C (c_X0_checkMoment l G p0 h0) F_X0_checkMoment rfl bw387 bw388 (hE.S hS hAB) vpn hl.1 dX0_withNano_1 ⟨Nat.le_of_ble_eq_true rfl, Nat.le_of_ble_eq_true rfl⟩ rfl (Nat.le_of_ble_eq_true rfl) ⟨Nat.le_of_ble_eq_true rfl, Nat.le_of_ble_eq_true rfl⟩ ?_
  refine lv_iload_n hx hb dX0_withNano_4 rfl (lv_at hl 2 rfl) ?_
  refine lv_iconst (v := (0 : Int32)) hx hb dX0_withNano_5 qi_0 ?_
  refine lv_ldc (v := (999999999 : Int32)) hx hb hown (hw _ bw378) dX0_withNano_6 ?_
  refine rcSv (as := [.int p1, .int (0 : Int32), .int (999999999 : Int32)]) (rest := []) C (c_X0_checkRange l G p1 (0 : Int32) (999999999 : Int32) r1 q1) F_X0_checkRange rfl bw308 bw309 (hE.S hS hAB) vpn hl.1 dX0_withNano_8 ⟨Nat.le_of_ble_eq_true rfl, Nat.le_of_ble_eq_true rfl⟩ rfl (Nat.le_of_ble_eq_true rfl) ⟨Nat.le_of_ble_eq_true rfl, Nat.le_of_ble_eq_true rfl⟩ ?_
  refine lv_aload_n hx hb dX0_withNano_11 rfl (lv_at hl 0 rfl) ?_
  refine va_get (D := gD G) (cl := vwCl) (tys := gT G) (ci := 2) (v := .ref (a 5)) (C := RX0) (T := TX0) (N := 12) hx hb hw inB_X0 hown hE.K hP 0 rfl rfl 4 (by decide) (hw _ bw98) (fun _ h9 => h9) rfl dX0_withNano_12 ?_
  refine lv_iload_n hx hb dX0_withNano_15 rfl (lv_at hl 1 rfl) ?_
  refine va_lald (tys := gT G) hx hb hE.K hP 5 1 rfl rfl h0 dX0_withNano_16 ?_
  refine lv_lstore_n (lv' := [(3, .long ((xN S) p0.toNatClampNeg)), (0, .ref (a 0)), (1, .int p0), (2, .int p1)]) hx hb dX0_withNano_17 rfl hl (Nat.le_of_ble_eq_true rfl) rfl (fun ls hl => ?_)
  refine lv_aload_n hx hb dX0_withNano_18 rfl (lv_at hl 1 rfl) ?_
  refine lv_iload_n hx hb dX0_withNano_19 rfl (lv_at hl 2 rfl) ?_
  refine lv_iload_n hx hb dX0_withNano_20 rfl (lv_at hl 2 rfl) ?_
  refine lv_lload_n hx hb dX0_withNano_21 rfl (lv_at hl 0 rfl) ?_
  refine lv_iload_n hx hb dX0_withNano_22 rfl (lv_at hl 3 rfl) ?_
  refine lv_i2l (v := (p1.toInt64)) hx hb dX0_withNano_23 (by first | rfl | decide) ?_
  refine lv_ladd hx hb dX0_withNano_24 ?_
  refine lv_lload_n hx hb dX0_withNano_25 rfl (lv_at hl 0 rfl) ?_
  refine rcSi (as := [.long ((xN S) p0.toNatClampNeg)]) (rest := [.long (((xN S) p0.toNatClampNeg) + (p1.toInt64)), .int p0, .int p0, .ref (a 0)]) C (c_X0_nanoOfSecond l G ((xN S) p0.toNatClampNeg)) F_X0_nanoOfSecond rfl bw161 bw162 (hE.S hS hAB) vpn hl.1 dX0_withNano_26 ⟨Nat.le_of_ble_eq_true rfl, Nat.le_of_ble_eq_true rfl⟩ rfl (Nat.le_of_ble_eq_true rfl) ⟨Nat.le_of_ble_eq_true rfl, Nat.le_of_ble_eq_true rfl⟩ ?_
  refine lv_i2l (v := ((fX0_nanoOfSecond ((xN S) p0.toNatClampNeg)).toInt64)) hx hb dX0_withNano_29 (by first | rfl | decide) ?_
  refine lv_lsub hx hb dX0_withNano_30 ?_
  refine wcVi (as := [.int p0, .int p0, .long ((((xN S) p0.toNatClampNeg) + (p1.toInt64)) - ((fX0_nanoOfSecond ((xN S) p0.toNatClampNeg)).toInt64))]) (rest := []) (cl := RX0) C (c_X0_becomeAs l G a S p0 p0 ((((xN S) p0.toNatClampNeg) + (p1.toInt64)) - ((fX0_nanoOfSecond ((xN S) p0.toNatClampNeg)).toInt64)) h0 h0) F_X0_becomeAs rfl bw446 bw448 bw22 (hE.S hS hAB) hP hD hS hA hAB (rv2 hE.K hP (q0 := 0) rfl) hl.1 dX0_withNano_31 ⟨Nat.le_of_ble_eq_true rfl, Nat.le_of_ble_eq_true rfl⟩ rfl (Nat.le_of_ble_eq_true rfl) ⟨Nat.le_of_ble_eq_true rfl, Nat.le_of_ble_eq_true rfl⟩ (fun H locs hP hD hS => ?_)
  exact we_i (wf := wX G a) hx hb hr hk hP hD hS (Nat.le_of_ble_eq_true rfl) (Nat.le_of_ble_eq_true rfl) dX0_withNano_34 rfl

set_option maxRecDepth 100000 in
set_option maxHeartbeats 4000000 in
theorem c_X0_truncate (l : Launch) (G : GT) (a : Nat → Nat) (S : SX) (p0 : Int32) (p1 : Int32) (h0 : vp_in p0 6) (r1 : ¬ p1 < (0 : Int32)) (q1 : p1 ≤ (7 : Int32)) : WR l G yX0_truncate cX0_truncate 3 (some .int) 8 0 0 [.ref (a 0), .int p0, .int p1] (wX G a S) (wX G a (gX0_truncate S p0 p1).2) (some (.int (gX0_truncate S p0 p1).1)) := by
  refine WR.ofW (own := RX0) rfl (plainFor_of_name pnN_RX0) (Nat.le_of_ble_eq_true rfl) ?_
  intro p e s m below meth c A C hr hk hnm hE hP hD hA hAB hS ls hl
  have hx := C.1
  have hb := C.2.1
  have hown := C.2.2.2.1
  have hw := C.2.2.2.2
  have hl : lv_has ls 3 [(0, .ref (a 0)), (1, .int p0), (2, .int p1)] := hl
  refine lv_iload_n hx hb dX0_truncate_0 rfl (lv_at hl 1 rfl) ?_
  refine rcSv (as := [.int p0]) (rest := []) C (c_X0_checkMoment l G p0 h0) F_X0_checkMoment rfl bw387 bw388 (hE.S hS hAB) vpn hl.1 dX0_truncate_1 ⟨Nat.le_of_ble_eq_true rfl, Nat.le_of_ble_eq_true rfl⟩ rfl (Nat.le_of_ble_eq_true rfl) ⟨Nat.le_of_ble_eq_true rfl, Nat.le_of_ble_eq_true rfl⟩ ?_
  refine lv_iload_n hx hb dX0_truncate_4 rfl (lv_at hl 2 rfl) ?_
  refine lv_iconst (v := (0 : Int32)) hx hb dX0_truncate_5 qi_0 ?_
  refine lv_bipush (v := (7 : Int32)) hx hb dX0_truncate_6 qb_7 ?_
  refine rcSv (as := [.int p1, .int (0 : Int32), .int (7 : Int32)]) (rest := []) C (c_X0_checkRange l G p1 (0 : Int32) (7 : Int32) r1 q1) F_X0_checkRange rfl bw308 bw309 (hE.S hS hAB) vpn hl.1 dX0_truncate_8 ⟨Nat.le_of_ble_eq_true rfl, Nat.le_of_ble_eq_true rfl⟩ rfl (Nat.le_of_ble_eq_true rfl) ⟨Nat.le_of_ble_eq_true rfl, Nat.le_of_ble_eq_true rfl⟩ ?_
  refine lv_aload_n hx hb dX0_truncate_11 rfl (lv_at hl 0 rfl) ?_
  refine lv_iload_n hx hb dX0_truncate_12 rfl (lv_at hl 1 rfl) ?_
  refine lv_iload_n hx hb dX0_truncate_13 rfl (lv_at hl 1 rfl) ?_
  refine lv_aload_n hx hb dX0_truncate_14 rfl (lv_at hl 0 rfl) ?_
  refine va_get (D := gD G) (cl := vwCl) (tys := gT G) (ci := 2) (v := .ref (a 5)) (C := RX0) (T := TX0) (N := 12) hx hb hw inB_X0 hown hE.K hP 0 rfl rfl 4 (by decide) (hw _ bw98) (fun _ h9 => h9) rfl dX0_truncate_15 ?_
  refine lv_iload_n hx hb dX0_truncate_18 rfl (lv_at hl 1 rfl) ?_
  refine va_lald (tys := gT G) hx hb hE.K hP 5 1 rfl rfl h0 dX0_truncate_19 ?_
  refine lv_iload_n hx hb dX0_truncate_20 rfl (lv_at hl 2 rfl) ?_
  refine rcSl (as := [.long ((xN S) p0.toNatClampNeg), .int p1]) (rest := [.int p0, .int p0, .ref (a 0)]) C (c_X0_cutNano l G ((xN S) p0.toNatClampNeg) p1) F_X0_cutNano rfl bw220 bw221 (hE.S hS hAB) vpn hl.1 dX0_truncate_21 ⟨Nat.le_of_ble_eq_true rfl, Nat.le_of_ble_eq_true rfl⟩ rfl (Nat.le_of_ble_eq_true rfl) ⟨Nat.le_of_ble_eq_true rfl, Nat.le_of_ble_eq_true rfl⟩ ?_
  refine wcVi (as := [.int p0, .int p0, .long (fX0_cutNano ((xN S) p0.toNatClampNeg) p1)]) (rest := []) (cl := RX0) C (c_X0_becomeAs l G a S p0 p0 (fX0_cutNano ((xN S) p0.toNatClampNeg) p1) h0 h0) F_X0_becomeAs rfl bw446 bw448 bw22 (hE.S hS hAB) hP hD hS hA hAB (rv2 hE.K hP (q0 := 0) rfl) hl.1 dX0_truncate_24 ⟨Nat.le_of_ble_eq_true rfl, Nat.le_of_ble_eq_true rfl⟩ rfl (Nat.le_of_ble_eq_true rfl) ⟨Nat.le_of_ble_eq_true rfl, Nat.le_of_ble_eq_true rfl⟩ (fun H locs hP hD hS => ?_)
  exact we_i (wf := wX G a) hx hb hr hk hP hD hS (Nat.le_of_ble_eq_true rfl) (Nat.le_of_ble_eq_true rfl) dX0_truncate_27 rfl

set_option maxRecDepth 100000 in
set_option maxHeartbeats 4000000 in
theorem c_X0_plusYears (l : Launch) (G : GT) (a : Nat → Nat) (S : SX) (p0 : Int32) (p1 : Int32) (h0 : vp_in p0 6) (r1 : ¬ p1 < (-100000000 : Int32)) (q1 : p1 ≤ (100000000 : Int32)) : WR l G yX0_plusYears cX0_plusYears 3 (some .int) 8 0 0 [.ref (a 0), .int p0, .int p1] (wX G a S) (wX G a (gX0_plusYears S p0 p1).2) (some (.int (gX0_plusYears S p0 p1).1)) := by
  refine WR.ofW (own := RX0) rfl (plainFor_of_name pnN_RX0) (Nat.le_of_ble_eq_true rfl) ?_
  intro p e s m below meth c A C hr hk hnm hE hP hD hA hAB hS ls hl
  have hx := C.1
  have hb := C.2.1
  have hown := C.2.2.2.1
  have hw := C.2.2.2.2
  have hl : lv_has ls 3 [(0, .ref (a 0)), (1, .int p0), (2, .int p1)] := hl
  refine lv_iload_n hx hb dX0_plusYears_0 rfl (lv_at hl 1 rfl) ?_
  refine rcSv (as := [.int p0]) (rest := []) C (c_X0_checkMoment l G p0 h0) F_X0_checkMoment rfl bw387 bw388 (hE.S hS hAB) vpn hl.1 dX0_plusYears_1 ⟨Nat.le_of_ble_eq_true rfl, Nat.le_of_ble_eq_true rfl⟩ rfl (Nat.le_of_ble_eq_true rfl) ⟨Nat.le_of_ble_eq_true rfl, Nat.le_of_ble_eq_true rfl⟩ ?_
  refine lv_iload_n hx hb dX0_plusYears_4 rfl (lv_at hl 2 rfl) ?_
  refine lv_ldc (v := (-100000000 : Int32)) hx hb hown (hw _ bw541) dX0_plusYears_5 ?_
  refine lv_ldc (v := (100000000 : Int32)) hx hb hown (hw _ bw542) dX0_plusYears_7 ?_
  refine rcSv (as := [.int p1, .int (-100000000 : Int32), .int (100000000 : Int32)]) (rest := []) C (c_X0_checkRange l G p1 (-100000000 : Int32) (100000000 : Int32) r1 q1) F_X0_checkRange rfl bw308 bw309 (hE.S hS hAB) vpn hl.1 dX0_plusYears_9 ⟨Nat.le_of_ble_eq_true rfl, Nat.le_of_ble_eq_true rfl⟩ rfl (Nat.le_of_ble_eq_true rfl) ⟨Nat.le_of_ble_eq_true rfl, Nat.le_of_ble_eq_true rfl⟩ ?_
  refine lv_aload_n hx hb dX0_plusYears_12 rfl (lv_at hl 0 rfl) ?_
  refine lv_iload_n hx hb dX0_plusYears_13 rfl (lv_at hl 1 rfl) ?_
  refine lv_ldc2 (v := (12 : Int64)) hx hb hown (hw _ bw543) dX0_plusYears_14 ?_
  refine lv_iload_n hx hb dX0_plusYears_17 rfl (lv_at hl 2 rfl) ?_
  refine lv_i2l (v := (p1.toInt64)) hx hb dX0_plusYears_18 (by first | rfl | decide) ?_
  refine lv_lmul hx hb dX0_plusYears_19 ?_
  refine wcVi (as := [.int p0, .long ((12 : Int64) * (p1.toInt64))]) (rest := []) (cl := RX0) C (c_X0_goMonths l G a S p0 ((12 : Int64) * (p1.toInt64)) h0) F_X0_goMonths rfl bw544 bw546 bw24 (hE.S hS hAB) hP hD hS hA hAB (rv2 hE.K hP (q0 := 0) rfl) hl.1 dX0_plusYears_20 ⟨Nat.le_of_ble_eq_true rfl, Nat.le_of_ble_eq_true rfl⟩ rfl (Nat.le_of_ble_eq_true rfl) ⟨Nat.le_of_ble_eq_true rfl, Nat.le_of_ble_eq_true rfl⟩ (fun H locs hP hD hS => ?_)
  exact we_i (wf := wX G a) hx hb hr hk hP hD hS (Nat.le_of_ble_eq_true rfl) (Nat.le_of_ble_eq_true rfl) dX0_plusYears_23 rfl

set_option maxRecDepth 100000 in
set_option maxHeartbeats 4000000 in
theorem c_X0_minusYears (l : Launch) (G : GT) (a : Nat → Nat) (S : SX) (p0 : Int32) (p1 : Int32) (h0 : vp_in p0 6) (r1 : ¬ p1 < (-100000000 : Int32)) (q1 : p1 ≤ (100000000 : Int32)) : WR l G yX0_minusYears cX0_minusYears 3 (some .int) 8 0 0 [.ref (a 0), .int p0, .int p1] (wX G a S) (wX G a (gX0_minusYears S p0 p1).2) (some (.int (gX0_minusYears S p0 p1).1)) := by
  refine WR.ofW (own := RX0) rfl (plainFor_of_name pnN_RX0) (Nat.le_of_ble_eq_true rfl) ?_
  intro p e s m below meth c A C hr hk hnm hE hP hD hA hAB hS ls hl
  have hx := C.1
  have hb := C.2.1
  have hown := C.2.2.2.1
  have hw := C.2.2.2.2
  have hl : lv_has ls 3 [(0, .ref (a 0)), (1, .int p0), (2, .int p1)] := hl
  refine lv_iload_n hx hb dX0_minusYears_0 rfl (lv_at hl 1 rfl) ?_
  refine rcSv (as := [.int p0]) (rest := []) C (c_X0_checkMoment l G p0 h0) F_X0_checkMoment rfl bw387 bw388 (hE.S hS hAB) vpn hl.1 dX0_minusYears_1 ⟨Nat.le_of_ble_eq_true rfl, Nat.le_of_ble_eq_true rfl⟩ rfl (Nat.le_of_ble_eq_true rfl) ⟨Nat.le_of_ble_eq_true rfl, Nat.le_of_ble_eq_true rfl⟩ ?_
  refine lv_iload_n hx hb dX0_minusYears_4 rfl (lv_at hl 2 rfl) ?_
  refine lv_ldc (v := (-100000000 : Int32)) hx hb hown (hw _ bw541) dX0_minusYears_5 ?_
  refine lv_ldc (v := (100000000 : Int32)) hx hb hown (hw _ bw542) dX0_minusYears_7 ?_
  refine rcSv (as := [.int p1, .int (-100000000 : Int32), .int (100000000 : Int32)]) (rest := []) C (c_X0_checkRange l G p1 (-100000000 : Int32) (100000000 : Int32) r1 q1) F_X0_checkRange rfl bw308 bw309 (hE.S hS hAB) vpn hl.1 dX0_minusYears_9 ⟨Nat.le_of_ble_eq_true rfl, Nat.le_of_ble_eq_true rfl⟩ rfl (Nat.le_of_ble_eq_true rfl) ⟨Nat.le_of_ble_eq_true rfl, Nat.le_of_ble_eq_true rfl⟩ ?_
  refine lv_aload_n hx hb dX0_minusYears_12 rfl (lv_at hl 0 rfl) ?_
  refine lv_iload_n hx hb dX0_minusYears_13 rfl (lv_at hl 1 rfl) ?_
  refine lv_ldc2 (v := (-12 : Int64)) hx hb hown (hw _ bw611) dX0_minusYears_14 ?_
  refine lv_iload_n hx hb dX0_minusYears_17 rfl (lv_at hl 2 rfl) ?_
  refine lv_i2l (v := (p1.toInt64)) hx hb dX0_minusYears_18 (by first | rfl | decide) ?_
  refine lv_lmul hx hb dX0_minusYears_19 ?_
  refine wcVi (as := [.int p0, .long ((-12 : Int64) * (p1.toInt64))]) (rest := []) (cl := RX0) C (c_X0_goMonths l G a S p0 ((-12 : Int64) * (p1.toInt64)) h0) F_X0_goMonths rfl bw544 bw546 bw24 (hE.S hS hAB) hP hD hS hA hAB (rv2 hE.K hP (q0 := 0) rfl) hl.1 dX0_minusYears_20 ⟨Nat.le_of_ble_eq_true rfl, Nat.le_of_ble_eq_true rfl⟩ rfl (Nat.le_of_ble_eq_true rfl) ⟨Nat.le_of_ble_eq_true rfl, Nat.le_of_ble_eq_true rfl⟩ (fun H locs hP hD hS => ?_)
  exact we_i (wf := wX G a) hx hb hr hk hP hD hS (Nat.le_of_ble_eq_true rfl) (Nat.le_of_ble_eq_true rfl) dX0_minusYears_23 rfl

set_option maxRecDepth 100000 in
set_option maxHeartbeats 4000000 in
theorem c_X0_plusMonths (l : Launch) (G : GT) (a : Nat → Nat) (S : SX) (p0 : Int32) (p1 : Int32) (h0 : vp_in p0 6) : WR l G yX0_plusMonths cX0_plusMonths 3 (some .int) 8 0 0 [.ref (a 0), .int p0, .int p1] (wX G a S) (wX G a (gX0_plusMonths S p0 p1).2) (some (.int (gX0_plusMonths S p0 p1).1)) := by
  refine WR.ofW (own := RX0) rfl (plainFor_of_name pnN_RX0) (Nat.le_of_ble_eq_true rfl) ?_
  intro p e s m below meth c A C hr hk hnm hE hP hD hA hAB hS ls hl
  have hx := C.1
  have hb := C.2.1
  have hown := C.2.2.2.1
  have hw := C.2.2.2.2
  have hl : lv_has ls 3 [(0, .ref (a 0)), (1, .int p0), (2, .int p1)] := hl
  refine lv_iload_n hx hb dX0_plusMonths_0 rfl (lv_at hl 1 rfl) ?_
  refine rcSv (as := [.int p0]) (rest := []) C (c_X0_checkMoment l G p0 h0) F_X0_checkMoment rfl bw387 bw388 (hE.S hS hAB) vpn hl.1 dX0_plusMonths_1 ⟨Nat.le_of_ble_eq_true rfl, Nat.le_of_ble_eq_true rfl⟩ rfl (Nat.le_of_ble_eq_true rfl) ⟨Nat.le_of_ble_eq_true rfl, Nat.le_of_ble_eq_true rfl⟩ ?_
  refine lv_aload_n hx hb dX0_plusMonths_4 rfl (lv_at hl 0 rfl) ?_
  refine lv_iload_n hx hb dX0_plusMonths_5 rfl (lv_at hl 1 rfl) ?_
  refine lv_iload_n hx hb dX0_plusMonths_6 rfl (lv_at hl 2 rfl) ?_
  refine lv_i2l (v := (p1.toInt64)) hx hb dX0_plusMonths_7 (by first | rfl | decide) ?_
  refine wcVi (as := [.int p0, .long (p1.toInt64)]) (rest := []) (cl := RX0) C (c_X0_goMonths l G a S p0 (p1.toInt64) h0) F_X0_goMonths rfl bw544 bw546 bw24 (hE.S hS hAB) hP hD hS hA hAB (rv2 hE.K hP (q0 := 0) rfl) hl.1 dX0_plusMonths_8 ⟨Nat.le_of_ble_eq_true rfl, Nat.le_of_ble_eq_true rfl⟩ rfl (Nat.le_of_ble_eq_true rfl) ⟨Nat.le_of_ble_eq_true rfl, Nat.le_of_ble_eq_true rfl⟩ (fun H locs hP hD hS => ?_)
  exact we_i (wf := wX G a) hx hb hr hk hP hD hS (Nat.le_of_ble_eq_true rfl) (Nat.le_of_ble_eq_true rfl) dX0_plusMonths_11 rfl

set_option maxRecDepth 100000 in
set_option maxHeartbeats 4000000 in
theorem c_X0_minusMonths (l : Launch) (G : GT) (a : Nat → Nat) (S : SX) (p0 : Int32) (p1 : Int32) (h0 : vp_in p0 6) : WR l G yX0_minusMonths cX0_minusMonths 3 (some .int) 8 0 0 [.ref (a 0), .int p0, .int p1] (wX G a S) (wX G a (gX0_minusMonths S p0 p1).2) (some (.int (gX0_minusMonths S p0 p1).1)) := by
  refine WR.ofW (own := RX0) rfl (plainFor_of_name pnN_RX0) (Nat.le_of_ble_eq_true rfl) ?_
  intro p e s m below meth c A C hr hk hnm hE hP hD hA hAB hS ls hl
  have hx := C.1
  have hb := C.2.1
  have hown := C.2.2.2.1
  have hw := C.2.2.2.2
  have hl : lv_has ls 3 [(0, .ref (a 0)), (1, .int p0), (2, .int p1)] := hl
  refine lv_iload_n hx hb dX0_minusMonths_0 rfl (lv_at hl 1 rfl) ?_
  refine rcSv (as := [.int p0]) (rest := []) C (c_X0_checkMoment l G p0 h0) F_X0_checkMoment rfl bw387 bw388 (hE.S hS hAB) vpn hl.1 dX0_minusMonths_1 ⟨Nat.le_of_ble_eq_true rfl, Nat.le_of_ble_eq_true rfl⟩ rfl (Nat.le_of_ble_eq_true rfl) ⟨Nat.le_of_ble_eq_true rfl, Nat.le_of_ble_eq_true rfl⟩ ?_
  refine lv_aload_n hx hb dX0_minusMonths_4 rfl (lv_at hl 0 rfl) ?_
  refine lv_iload_n hx hb dX0_minusMonths_5 rfl (lv_at hl 1 rfl) ?_
  refine lv_iload_n hx hb dX0_minusMonths_6 rfl (lv_at hl 2 rfl) ?_
  refine lv_i2l (v := (p1.toInt64)) hx hb dX0_minusMonths_7 (by first | rfl | decide) ?_
  refine lv_lneg hx hb dX0_minusMonths_8 ?_
  refine wcVi (as := [.int p0, .long (-(p1.toInt64))]) (rest := []) (cl := RX0) C (c_X0_goMonths l G a S p0 (-(p1.toInt64)) h0) F_X0_goMonths rfl bw544 bw546 bw24 (hE.S hS hAB) hP hD hS hA hAB (rv2 hE.K hP (q0 := 0) rfl) hl.1 dX0_minusMonths_9 ⟨Nat.le_of_ble_eq_true rfl, Nat.le_of_ble_eq_true rfl⟩ rfl (Nat.le_of_ble_eq_true rfl) ⟨Nat.le_of_ble_eq_true rfl, Nat.le_of_ble_eq_true rfl⟩ (fun H locs hP hD hS => ?_)
  exact we_i (wf := wX G a) hx hb hr hk hP hD hS (Nat.le_of_ble_eq_true rfl) (Nat.le_of_ble_eq_true rfl) dX0_minusMonths_12 rfl

set_option maxRecDepth 100000 in
set_option maxHeartbeats 4000000 in
theorem c_X0_plusWeeks (l : Launch) (G : GT) (a : Nat → Nat) (S : SX) (p0 : Int32) (p1 : Int32) (h0 : vp_in p0 6) : WR l G yX0_plusWeeks cX0_plusWeeks 3 (some .int) 8 0 0 [.ref (a 0), .int p0, .int p1] (wX G a S) (wX G a (gX0_plusWeeks S p0 p1).2) (some (.int (gX0_plusWeeks S p0 p1).1)) := by
  refine WR.ofW (own := RX0) rfl (plainFor_of_name pnN_RX0) (Nat.le_of_ble_eq_true rfl) ?_
  intro p e s m below meth c A C hr hk hnm hE hP hD hA hAB hS ls hl
  have hx := C.1
  have hb := C.2.1
  have hown := C.2.2.2.1
  have hw := C.2.2.2.2
  have hl : lv_has ls 3 [(0, .ref (a 0)), (1, .int p0), (2, .int p1)] := hl
  refine lv_iload_n hx hb dX0_plusWeeks_0 rfl (lv_at hl 1 rfl) ?_
  refine rcSv (as := [.int p0]) (rest := []) C (c_X0_checkMoment l G p0 h0) F_X0_checkMoment rfl bw387 bw388 (hE.S hS hAB) vpn hl.1 dX0_plusWeeks_1 ⟨Nat.le_of_ble_eq_true rfl, Nat.le_of_ble_eq_true rfl⟩ rfl (Nat.le_of_ble_eq_true rfl) ⟨Nat.le_of_ble_eq_true rfl, Nat.le_of_ble_eq_true rfl⟩ ?_
  refine lv_aload_n hx hb dX0_plusWeeks_4 rfl (lv_at hl 0 rfl) ?_
  refine lv_iload_n hx hb dX0_plusWeeks_5 rfl (lv_at hl 1 rfl) ?_
  refine lv_iload_n hx hb dX0_plusWeeks_6 rfl (lv_at hl 2 rfl) ?_
  refine lv_i2l (v := (p1.toInt64)) hx hb dX0_plusWeeks_7 (by first | rfl | decide) ?_
  refine lv_bipush (v := (8 : Int32)) hx hb dX0_plusWeeks_8 qb_8 ?_
  refine wcVi (as := [.int p0, .long (p1.toInt64), .int (8 : Int32)]) (rest := []) (cl := RX0) C (c_X0_goUnits l G a S p0 (p1.toInt64) (8 : Int32) h0) F_X0_goUnits rfl bw568 bw570 bw26 (hE.S hS hAB) hP hD hS hA hAB (rv2 hE.K hP (q0 := 0) rfl) hl.1 dX0_plusWeeks_10 ⟨Nat.le_of_ble_eq_true rfl, Nat.le_of_ble_eq_true rfl⟩ rfl (Nat.le_of_ble_eq_true rfl) ⟨Nat.le_of_ble_eq_true rfl, Nat.le_of_ble_eq_true rfl⟩ (fun H locs hP hD hS => ?_)
  exact we_i (wf := wX G a) hx hb hr hk hP hD hS (Nat.le_of_ble_eq_true rfl) (Nat.le_of_ble_eq_true rfl) dX0_plusWeeks_13 rfl

set_option maxRecDepth 100000 in
set_option maxHeartbeats 4000000 in
theorem c_X0_minusWeeks (l : Launch) (G : GT) (a : Nat → Nat) (S : SX) (p0 : Int32) (p1 : Int32) (h0 : vp_in p0 6) : WR l G yX0_minusWeeks cX0_minusWeeks 3 (some .int) 8 0 0 [.ref (a 0), .int p0, .int p1] (wX G a S) (wX G a (gX0_minusWeeks S p0 p1).2) (some (.int (gX0_minusWeeks S p0 p1).1)) := by
  refine WR.ofW (own := RX0) rfl (plainFor_of_name pnN_RX0) (Nat.le_of_ble_eq_true rfl) ?_
  intro p e s m below meth c A C hr hk hnm hE hP hD hA hAB hS ls hl
  have hx := C.1
  have hb := C.2.1
  have hown := C.2.2.2.1
  have hw := C.2.2.2.2
  have hl : lv_has ls 3 [(0, .ref (a 0)), (1, .int p0), (2, .int p1)] := hl
  refine lv_iload_n hx hb dX0_minusWeeks_0 rfl (lv_at hl 1 rfl) ?_
  refine rcSv (as := [.int p0]) (rest := []) C (c_X0_checkMoment l G p0 h0) F_X0_checkMoment rfl bw387 bw388 (hE.S hS hAB) vpn hl.1 dX0_minusWeeks_1 ⟨Nat.le_of_ble_eq_true rfl, Nat.le_of_ble_eq_true rfl⟩ rfl (Nat.le_of_ble_eq_true rfl) ⟨Nat.le_of_ble_eq_true rfl, Nat.le_of_ble_eq_true rfl⟩ ?_
  refine lv_aload_n hx hb dX0_minusWeeks_4 rfl (lv_at hl 0 rfl) ?_
  refine lv_iload_n hx hb dX0_minusWeeks_5 rfl (lv_at hl 1 rfl) ?_
  refine lv_iload_n hx hb dX0_minusWeeks_6 rfl (lv_at hl 2 rfl) ?_
  refine lv_i2l (v := (p1.toInt64)) hx hb dX0_minusWeeks_7 (by first | rfl | decide) ?_
  refine lv_lneg hx hb dX0_minusWeeks_8 ?_
  refine lv_bipush (v := (8 : Int32)) hx hb dX0_minusWeeks_9 qb_8 ?_
  refine wcVi (as := [.int p0, .long (-(p1.toInt64)), .int (8 : Int32)]) (rest := []) (cl := RX0) C (c_X0_goUnits l G a S p0 (-(p1.toInt64)) (8 : Int32) h0) F_X0_goUnits rfl bw568 bw570 bw26 (hE.S hS hAB) hP hD hS hA hAB (rv2 hE.K hP (q0 := 0) rfl) hl.1 dX0_minusWeeks_11 ⟨Nat.le_of_ble_eq_true rfl, Nat.le_of_ble_eq_true rfl⟩ rfl (Nat.le_of_ble_eq_true rfl) ⟨Nat.le_of_ble_eq_true rfl, Nat.le_of_ble_eq_true rfl⟩ (fun H locs hP hD hS => ?_)
  exact we_i (wf := wX G a) hx hb hr hk hP hD hS (Nat.le_of_ble_eq_true rfl) (Nat.le_of_ble_eq_true rfl) dX0_minusWeeks_14 rfl

set_option maxRecDepth 100000 in
set_option maxHeartbeats 4000000 in
theorem c_X0_plusDays (l : Launch) (G : GT) (a : Nat → Nat) (S : SX) (p0 : Int32) (p1 : Int32) (h0 : vp_in p0 6) : WR l G yX0_plusDays cX0_plusDays 3 (some .int) 8 0 0 [.ref (a 0), .int p0, .int p1] (wX G a S) (wX G a (gX0_plusDays S p0 p1).2) (some (.int (gX0_plusDays S p0 p1).1)) := by
  refine WR.ofW (own := RX0) rfl (plainFor_of_name pnN_RX0) (Nat.le_of_ble_eq_true rfl) ?_
  intro p e s m below meth c A C hr hk hnm hE hP hD hA hAB hS ls hl
  have hx := C.1
  have hb := C.2.1
  have hown := C.2.2.2.1
  have hw := C.2.2.2.2
  have hl : lv_has ls 3 [(0, .ref (a 0)), (1, .int p0), (2, .int p1)] := hl
  refine lv_iload_n hx hb dX0_plusDays_0 rfl (lv_at hl 1 rfl) ?_
  refine rcSv (as := [.int p0]) (rest := []) C (c_X0_checkMoment l G p0 h0) F_X0_checkMoment rfl bw387 bw388 (hE.S hS hAB) vpn hl.1 dX0_plusDays_1 ⟨Nat.le_of_ble_eq_true rfl, Nat.le_of_ble_eq_true rfl⟩ rfl (Nat.le_of_ble_eq_true rfl) ⟨Nat.le_of_ble_eq_true rfl, Nat.le_of_ble_eq_true rfl⟩ ?_
  refine lv_aload_n hx hb dX0_plusDays_4 rfl (lv_at hl 0 rfl) ?_
  refine lv_iload_n hx hb dX0_plusDays_5 rfl (lv_at hl 1 rfl) ?_
  refine lv_iload_n hx hb dX0_plusDays_6 rfl (lv_at hl 2 rfl) ?_
  refine lv_i2l (v := (p1.toInt64)) hx hb dX0_plusDays_7 (by first | rfl | decide) ?_
  refine lv_bipush (v := (7 : Int32)) hx hb dX0_plusDays_8 qb_7 ?_
  refine wcVi (as := [.int p0, .long (p1.toInt64), .int (7 : Int32)]) (rest := []) (cl := RX0) C (c_X0_goUnits l G a S p0 (p1.toInt64) (7 : Int32) h0) F_X0_goUnits rfl bw568 bw570 bw26 (hE.S hS hAB) hP hD hS hA hAB (rv2 hE.K hP (q0 := 0) rfl) hl.1 dX0_plusDays_10 ⟨Nat.le_of_ble_eq_true rfl, Nat.le_of_ble_eq_true rfl⟩ rfl (Nat.le_of_ble_eq_true rfl) ⟨Nat.le_of_ble_eq_true rfl, Nat.le_of_ble_eq_true rfl⟩ (fun H locs hP hD hS => ?_)
  exact we_i (wf := wX G a) hx hb hr hk hP hD hS (Nat.le_of_ble_eq_true rfl) (Nat.le_of_ble_eq_true rfl) dX0_plusDays_13 rfl

set_option maxRecDepth 100000 in
set_option maxHeartbeats 4000000 in
theorem c_X0_minusDays (l : Launch) (G : GT) (a : Nat → Nat) (S : SX) (p0 : Int32) (p1 : Int32) (h0 : vp_in p0 6) : WR l G yX0_minusDays cX0_minusDays 3 (some .int) 8 0 0 [.ref (a 0), .int p0, .int p1] (wX G a S) (wX G a (gX0_minusDays S p0 p1).2) (some (.int (gX0_minusDays S p0 p1).1)) := by
  refine WR.ofW (own := RX0) rfl (plainFor_of_name pnN_RX0) (Nat.le_of_ble_eq_true rfl) ?_
  intro p e s m below meth c A C hr hk hnm hE hP hD hA hAB hS ls hl
  have hx := C.1
  have hb := C.2.1
  have hown := C.2.2.2.1
  have hw := C.2.2.2.2
  have hl : lv_has ls 3 [(0, .ref (a 0)), (1, .int p0), (2, .int p1)] := hl
  refine lv_iload_n hx hb dX0_minusDays_0 rfl (lv_at hl 1 rfl) ?_
  refine rcSv (as := [.int p0]) (rest := []) C (c_X0_checkMoment l G p0 h0) F_X0_checkMoment rfl bw387 bw388 (hE.S hS hAB) vpn hl.1 dX0_minusDays_1 ⟨Nat.le_of_ble_eq_true rfl, Nat.le_of_ble_eq_true rfl⟩ rfl (Nat.le_of_ble_eq_true rfl) ⟨Nat.le_of_ble_eq_true rfl, Nat.le_of_ble_eq_true rfl⟩ ?_
  refine lv_aload_n hx hb dX0_minusDays_4 rfl (lv_at hl 0 rfl) ?_
  refine lv_iload_n hx hb dX0_minusDays_5 rfl (lv_at hl 1 rfl) ?_
  refine lv_iload_n hx hb dX0_minusDays_6 rfl (lv_at hl 2 rfl) ?_
  refine lv_i2l (v := (p1.toInt64)) hx hb dX0_minusDays_7 (by first | rfl | decide) ?_
  refine lv_lneg hx hb dX0_minusDays_8 ?_
  refine lv_bipush (v := (7 : Int32)) hx hb dX0_minusDays_9 qb_7 ?_
  refine wcVi (as := [.int p0, .long (-(p1.toInt64)), .int (7 : Int32)]) (rest := []) (cl := RX0) C (c_X0_goUnits l G a S p0 (-(p1.toInt64)) (7 : Int32) h0) F_X0_goUnits rfl bw568 bw570 bw26 (hE.S hS hAB) hP hD hS hA hAB (rv2 hE.K hP (q0 := 0) rfl) hl.1 dX0_minusDays_11 ⟨Nat.le_of_ble_eq_true rfl, Nat.le_of_ble_eq_true rfl⟩ rfl (Nat.le_of_ble_eq_true rfl) ⟨Nat.le_of_ble_eq_true rfl, Nat.le_of_ble_eq_true rfl⟩ (fun H locs hP hD hS => ?_)
  exact we_i (wf := wX G a) hx hb hr hk hP hD hS (Nat.le_of_ble_eq_true rfl) (Nat.le_of_ble_eq_true rfl) dX0_minusDays_14 rfl

set_option maxRecDepth 100000 in
set_option maxHeartbeats 4000000 in
theorem c_X0_plusHours (l : Launch) (G : GT) (a : Nat → Nat) (S : SX) (p0 : Int32) (p1 : Int32) (h0 : vp_in p0 6) : WR l G yX0_plusHours cX0_plusHours 3 (some .int) 8 0 0 [.ref (a 0), .int p0, .int p1] (wX G a S) (wX G a (gX0_plusHours S p0 p1).2) (some (.int (gX0_plusHours S p0 p1).1)) := by
  refine WR.ofW (own := RX0) rfl (plainFor_of_name pnN_RX0) (Nat.le_of_ble_eq_true rfl) ?_
  intro p e s m below meth c A C hr hk hnm hE hP hD hA hAB hS ls hl
  have hx := C.1
  have hb := C.2.1
  have hown := C.2.2.2.1
  have hw := C.2.2.2.2
  have hl : lv_has ls 3 [(0, .ref (a 0)), (1, .int p0), (2, .int p1)] := hl
  refine lv_iload_n hx hb dX0_plusHours_0 rfl (lv_at hl 1 rfl) ?_
  refine rcSv (as := [.int p0]) (rest := []) C (c_X0_checkMoment l G p0 h0) F_X0_checkMoment rfl bw387 bw388 (hE.S hS hAB) vpn hl.1 dX0_plusHours_1 ⟨Nat.le_of_ble_eq_true rfl, Nat.le_of_ble_eq_true rfl⟩ rfl (Nat.le_of_ble_eq_true rfl) ⟨Nat.le_of_ble_eq_true rfl, Nat.le_of_ble_eq_true rfl⟩ ?_
  refine lv_aload_n hx hb dX0_plusHours_4 rfl (lv_at hl 0 rfl) ?_
  refine lv_iload_n hx hb dX0_plusHours_5 rfl (lv_at hl 1 rfl) ?_
  refine lv_iload_n hx hb dX0_plusHours_6 rfl (lv_at hl 2 rfl) ?_
  refine lv_i2l (v := (p1.toInt64)) hx hb dX0_plusHours_7 (by first | rfl | decide) ?_
  refine lv_iconst (v := (5 : Int32)) hx hb dX0_plusHours_8 qi_5 ?_
  refine wcVi (as := [.int p0, .long (p1.toInt64), .int (5 : Int32)]) (rest := []) (cl := RX0) C (c_X0_goUnits l G a S p0 (p1.toInt64) (5 : Int32) h0) F_X0_goUnits rfl bw568 bw570 bw26 (hE.S hS hAB) hP hD hS hA hAB (rv2 hE.K hP (q0 := 0) rfl) hl.1 dX0_plusHours_9 ⟨Nat.le_of_ble_eq_true rfl, Nat.le_of_ble_eq_true rfl⟩ rfl (Nat.le_of_ble_eq_true rfl) ⟨Nat.le_of_ble_eq_true rfl, Nat.le_of_ble_eq_true rfl⟩ (fun H locs hP hD hS => ?_)
  exact we_i (wf := wX G a) hx hb hr hk hP hD hS (Nat.le_of_ble_eq_true rfl) (Nat.le_of_ble_eq_true rfl) dX0_plusHours_12 rfl

set_option maxRecDepth 100000 in
set_option maxHeartbeats 4000000 in
theorem c_X0_minusHours (l : Launch) (G : GT) (a : Nat → Nat) (S : SX) (p0 : Int32) (p1 : Int32) (h0 : vp_in p0 6) : WR l G yX0_minusHours cX0_minusHours 3 (some .int) 8 0 0 [.ref (a 0), .int p0, .int p1] (wX G a S) (wX G a (gX0_minusHours S p0 p1).2) (some (.int (gX0_minusHours S p0 p1).1)) := by
  refine WR.ofW (own := RX0) rfl (plainFor_of_name pnN_RX0) (Nat.le_of_ble_eq_true rfl) ?_
  intro p e s m below meth c A C hr hk hnm hE hP hD hA hAB hS ls hl
  have hx := C.1
  have hb := C.2.1
  have hown := C.2.2.2.1
  have hw := C.2.2.2.2
  have hl : lv_has ls 3 [(0, .ref (a 0)), (1, .int p0), (2, .int p1)] := hl
  refine lv_iload_n hx hb dX0_minusHours_0 rfl (lv_at hl 1 rfl) ?_
  refine rcSv (as := [.int p0]) (rest := []) C (c_X0_checkMoment l G p0 h0) F_X0_checkMoment rfl bw387 bw388 (hE.S hS hAB) vpn hl.1 dX0_minusHours_1 ⟨Nat.le_of_ble_eq_true rfl, Nat.le_of_ble_eq_true rfl⟩ rfl (Nat.le_of_ble_eq_true rfl) ⟨Nat.le_of_ble_eq_true rfl, Nat.le_of_ble_eq_true rfl⟩ ?_
  refine lv_aload_n hx hb dX0_minusHours_4 rfl (lv_at hl 0 rfl) ?_
  refine lv_iload_n hx hb dX0_minusHours_5 rfl (lv_at hl 1 rfl) ?_
  refine lv_iload_n hx hb dX0_minusHours_6 rfl (lv_at hl 2 rfl) ?_
  refine lv_i2l (v := (p1.toInt64)) hx hb dX0_minusHours_7 (by first | rfl | decide) ?_
  refine lv_lneg hx hb dX0_minusHours_8 ?_
  refine lv_iconst (v := (5 : Int32)) hx hb dX0_minusHours_9 qi_5 ?_
  refine wcVi (as := [.int p0, .long (-(p1.toInt64)), .int (5 : Int32)]) (rest := []) (cl := RX0) C (c_X0_goUnits l G a S p0 (-(p1.toInt64)) (5 : Int32) h0) F_X0_goUnits rfl bw568 bw570 bw26 (hE.S hS hAB) hP hD hS hA hAB (rv2 hE.K hP (q0 := 0) rfl) hl.1 dX0_minusHours_10 ⟨Nat.le_of_ble_eq_true rfl, Nat.le_of_ble_eq_true rfl⟩ rfl (Nat.le_of_ble_eq_true rfl) ⟨Nat.le_of_ble_eq_true rfl, Nat.le_of_ble_eq_true rfl⟩ (fun H locs hP hD hS => ?_)
  exact we_i (wf := wX G a) hx hb hr hk hP hD hS (Nat.le_of_ble_eq_true rfl) (Nat.le_of_ble_eq_true rfl) dX0_minusHours_13 rfl

set_option maxRecDepth 100000 in
set_option maxHeartbeats 4000000 in
theorem c_X0_plusMinutes (l : Launch) (G : GT) (a : Nat → Nat) (S : SX) (p0 : Int32) (p1 : Int32) (h0 : vp_in p0 6) : WR l G yX0_plusMinutes cX0_plusMinutes 3 (some .int) 8 0 0 [.ref (a 0), .int p0, .int p1] (wX G a S) (wX G a (gX0_plusMinutes S p0 p1).2) (some (.int (gX0_plusMinutes S p0 p1).1)) := by
  refine WR.ofW (own := RX0) rfl (plainFor_of_name pnN_RX0) (Nat.le_of_ble_eq_true rfl) ?_
  intro p e s m below meth c A C hr hk hnm hE hP hD hA hAB hS ls hl
  have hx := C.1
  have hb := C.2.1
  have hown := C.2.2.2.1
  have hw := C.2.2.2.2
  have hl : lv_has ls 3 [(0, .ref (a 0)), (1, .int p0), (2, .int p1)] := hl
  refine lv_iload_n hx hb dX0_plusMinutes_0 rfl (lv_at hl 1 rfl) ?_
  refine rcSv (as := [.int p0]) (rest := []) C (c_X0_checkMoment l G p0 h0) F_X0_checkMoment rfl bw387 bw388 (hE.S hS hAB) vpn hl.1 dX0_plusMinutes_1 ⟨Nat.le_of_ble_eq_true rfl, Nat.le_of_ble_eq_true rfl⟩ rfl (Nat.le_of_ble_eq_true rfl) ⟨Nat.le_of_ble_eq_true rfl, Nat.le_of_ble_eq_true rfl⟩ ?_
  refine lv_aload_n hx hb dX0_plusMinutes_4 rfl (lv_at hl 0 rfl) ?_
  refine lv_iload_n hx hb dX0_plusMinutes_5 rfl (lv_at hl 1 rfl) ?_
  refine lv_iload_n hx hb dX0_plusMinutes_6 rfl (lv_at hl 2 rfl) ?_
  refine lv_i2l (v := (p1.toInt64)) hx hb dX0_plusMinutes_7 (by first | rfl | decide) ?_
  refine lv_iconst (v := (4 : Int32)) hx hb dX0_plusMinutes_8 qi_4 ?_
  refine wcVi (as := [.int p0, .long (p1.toInt64), .int (4 : Int32)]) (rest := []) (cl := RX0) C (c_X0_goUnits l G a S p0 (p1.toInt64) (4 : Int32) h0) F_X0_goUnits rfl bw568 bw570 bw26 (hE.S hS hAB) hP hD hS hA hAB (rv2 hE.K hP (q0 := 0) rfl) hl.1 dX0_plusMinutes_9 ⟨Nat.le_of_ble_eq_true rfl, Nat.le_of_ble_eq_true rfl⟩ rfl (Nat.le_of_ble_eq_true rfl) ⟨Nat.le_of_ble_eq_true rfl, Nat.le_of_ble_eq_true rfl⟩ (fun H locs hP hD hS => ?_)
  exact we_i (wf := wX G a) hx hb hr hk hP hD hS (Nat.le_of_ble_eq_true rfl) (Nat.le_of_ble_eq_true rfl) dX0_plusMinutes_12 rfl

set_option maxRecDepth 100000 in
set_option maxHeartbeats 4000000 in
theorem c_X0_minusMinutes (l : Launch) (G : GT) (a : Nat → Nat) (S : SX) (p0 : Int32) (p1 : Int32) (h0 : vp_in p0 6) : WR l G yX0_minusMinutes cX0_minusMinutes 3 (some .int) 8 0 0 [.ref (a 0), .int p0, .int p1] (wX G a S) (wX G a (gX0_minusMinutes S p0 p1).2) (some (.int (gX0_minusMinutes S p0 p1).1)) := by
  refine WR.ofW (own := RX0) rfl (plainFor_of_name pnN_RX0) (Nat.le_of_ble_eq_true rfl) ?_
  intro p e s m below meth c A C hr hk hnm hE hP hD hA hAB hS ls hl
  have hx := C.1
  have hb := C.2.1
  have hown := C.2.2.2.1
  have hw := C.2.2.2.2
  have hl : lv_has ls 3 [(0, .ref (a 0)), (1, .int p0), (2, .int p1)] := hl
  refine lv_iload_n hx hb dX0_minusMinutes_0 rfl (lv_at hl 1 rfl) ?_
  refine rcSv (as := [.int p0]) (rest := []) C (c_X0_checkMoment l G p0 h0) F_X0_checkMoment rfl bw387 bw388 (hE.S hS hAB) vpn hl.1 dX0_minusMinutes_1 ⟨Nat.le_of_ble_eq_true rfl, Nat.le_of_ble_eq_true rfl⟩ rfl (Nat.le_of_ble_eq_true rfl) ⟨Nat.le_of_ble_eq_true rfl, Nat.le_of_ble_eq_true rfl⟩ ?_
  refine lv_aload_n hx hb dX0_minusMinutes_4 rfl (lv_at hl 0 rfl) ?_
  refine lv_iload_n hx hb dX0_minusMinutes_5 rfl (lv_at hl 1 rfl) ?_
  refine lv_iload_n hx hb dX0_minusMinutes_6 rfl (lv_at hl 2 rfl) ?_
  refine lv_i2l (v := (p1.toInt64)) hx hb dX0_minusMinutes_7 (by first | rfl | decide) ?_
  refine lv_lneg hx hb dX0_minusMinutes_8 ?_
  refine lv_iconst (v := (4 : Int32)) hx hb dX0_minusMinutes_9 qi_4 ?_
  refine wcVi (as := [.int p0, .long (-(p1.toInt64)), .int (4 : Int32)]) (rest := []) (cl := RX0) C (c_X0_goUnits l G a S p0 (-(p1.toInt64)) (4 : Int32) h0) F_X0_goUnits rfl bw568 bw570 bw26 (hE.S hS hAB) hP hD hS hA hAB (rv2 hE.K hP (q0 := 0) rfl) hl.1 dX0_minusMinutes_10 ⟨Nat.le_of_ble_eq_true rfl, Nat.le_of_ble_eq_true rfl⟩ rfl (Nat.le_of_ble_eq_true rfl) ⟨Nat.le_of_ble_eq_true rfl, Nat.le_of_ble_eq_true rfl⟩ (fun H locs hP hD hS => ?_)
  exact we_i (wf := wX G a) hx hb hr hk hP hD hS (Nat.le_of_ble_eq_true rfl) (Nat.le_of_ble_eq_true rfl) dX0_minusMinutes_13 rfl

set_option maxRecDepth 100000 in
set_option maxHeartbeats 4000000 in
theorem c_X0_plusSeconds (l : Launch) (G : GT) (a : Nat → Nat) (S : SX) (p0 : Int32) (p1 : Int32) (h0 : vp_in p0 6) : WR l G yX0_plusSeconds cX0_plusSeconds 3 (some .int) 8 0 0 [.ref (a 0), .int p0, .int p1] (wX G a S) (wX G a (gX0_plusSeconds S p0 p1).2) (some (.int (gX0_plusSeconds S p0 p1).1)) := by
  refine WR.ofW (own := RX0) rfl (plainFor_of_name pnN_RX0) (Nat.le_of_ble_eq_true rfl) ?_
  intro p e s m below meth c A C hr hk hnm hE hP hD hA hAB hS ls hl
  have hx := C.1
  have hb := C.2.1
  have hown := C.2.2.2.1
  have hw := C.2.2.2.2
  have hl : lv_has ls 3 [(0, .ref (a 0)), (1, .int p0), (2, .int p1)] := hl
  refine lv_iload_n hx hb dX0_plusSeconds_0 rfl (lv_at hl 1 rfl) ?_
  refine rcSv (as := [.int p0]) (rest := []) C (c_X0_checkMoment l G p0 h0) F_X0_checkMoment rfl bw387 bw388 (hE.S hS hAB) vpn hl.1 dX0_plusSeconds_1 ⟨Nat.le_of_ble_eq_true rfl, Nat.le_of_ble_eq_true rfl⟩ rfl (Nat.le_of_ble_eq_true rfl) ⟨Nat.le_of_ble_eq_true rfl, Nat.le_of_ble_eq_true rfl⟩ ?_
  refine lv_aload_n hx hb dX0_plusSeconds_4 rfl (lv_at hl 0 rfl) ?_
  refine lv_iload_n hx hb dX0_plusSeconds_5 rfl (lv_at hl 1 rfl) ?_
  refine lv_iload_n hx hb dX0_plusSeconds_6 rfl (lv_at hl 2 rfl) ?_
  refine lv_i2l (v := (p1.toInt64)) hx hb dX0_plusSeconds_7 (by first | rfl | decide) ?_
  refine lv_iconst (v := (3 : Int32)) hx hb dX0_plusSeconds_8 qi_3 ?_
  refine wcVi (as := [.int p0, .long (p1.toInt64), .int (3 : Int32)]) (rest := []) (cl := RX0) C (c_X0_goUnits l G a S p0 (p1.toInt64) (3 : Int32) h0) F_X0_goUnits rfl bw568 bw570 bw26 (hE.S hS hAB) hP hD hS hA hAB (rv2 hE.K hP (q0 := 0) rfl) hl.1 dX0_plusSeconds_9 ⟨Nat.le_of_ble_eq_true rfl, Nat.le_of_ble_eq_true rfl⟩ rfl (Nat.le_of_ble_eq_true rfl) ⟨Nat.le_of_ble_eq_true rfl, Nat.le_of_ble_eq_true rfl⟩ (fun H locs hP hD hS => ?_)
  exact we_i (wf := wX G a) hx hb hr hk hP hD hS (Nat.le_of_ble_eq_true rfl) (Nat.le_of_ble_eq_true rfl) dX0_plusSeconds_12 rfl

set_option maxRecDepth 100000 in
set_option maxHeartbeats 4000000 in
theorem c_X0_minusSeconds (l : Launch) (G : GT) (a : Nat → Nat) (S : SX) (p0 : Int32) (p1 : Int32) (h0 : vp_in p0 6) : WR l G yX0_minusSeconds cX0_minusSeconds 3 (some .int) 8 0 0 [.ref (a 0), .int p0, .int p1] (wX G a S) (wX G a (gX0_minusSeconds S p0 p1).2) (some (.int (gX0_minusSeconds S p0 p1).1)) := by
  refine WR.ofW (own := RX0) rfl (plainFor_of_name pnN_RX0) (Nat.le_of_ble_eq_true rfl) ?_
  intro p e s m below meth c A C hr hk hnm hE hP hD hA hAB hS ls hl
  have hx := C.1
  have hb := C.2.1
  have hown := C.2.2.2.1
  have hw := C.2.2.2.2
  have hl : lv_has ls 3 [(0, .ref (a 0)), (1, .int p0), (2, .int p1)] := hl
  refine lv_iload_n hx hb dX0_minusSeconds_0 rfl (lv_at hl 1 rfl) ?_
  refine rcSv (as := [.int p0]) (rest := []) C (c_X0_checkMoment l G p0 h0) F_X0_checkMoment rfl bw387 bw388 (hE.S hS hAB) vpn hl.1 dX0_minusSeconds_1 ⟨Nat.le_of_ble_eq_true rfl, Nat.le_of_ble_eq_true rfl⟩ rfl (Nat.le_of_ble_eq_true rfl) ⟨Nat.le_of_ble_eq_true rfl, Nat.le_of_ble_eq_true rfl⟩ ?_
  refine lv_aload_n hx hb dX0_minusSeconds_4 rfl (lv_at hl 0 rfl) ?_
  refine lv_iload_n hx hb dX0_minusSeconds_5 rfl (lv_at hl 1 rfl) ?_
  refine lv_iload_n hx hb dX0_minusSeconds_6 rfl (lv_at hl 2 rfl) ?_
  refine lv_i2l (v := (p1.toInt64)) hx hb dX0_minusSeconds_7 (by first | rfl | decide) ?_
  refine lv_lneg hx hb dX0_minusSeconds_8 ?_
  refine lv_iconst (v := (3 : Int32)) hx hb dX0_minusSeconds_9 qi_3 ?_
  refine wcVi (as := [.int p0, .long (-(p1.toInt64)), .int (3 : Int32)]) (rest := []) (cl := RX0) C (c_X0_goUnits l G a S p0 (-(p1.toInt64)) (3 : Int32) h0) F_X0_goUnits rfl bw568 bw570 bw26 (hE.S hS hAB) hP hD hS hA hAB (rv2 hE.K hP (q0 := 0) rfl) hl.1 dX0_minusSeconds_10 ⟨Nat.le_of_ble_eq_true rfl, Nat.le_of_ble_eq_true rfl⟩ rfl (Nat.le_of_ble_eq_true rfl) ⟨Nat.le_of_ble_eq_true rfl, Nat.le_of_ble_eq_true rfl⟩ (fun H locs hP hD hS => ?_)
  exact we_i (wf := wX G a) hx hb hr hk hP hD hS (Nat.le_of_ble_eq_true rfl) (Nat.le_of_ble_eq_true rfl) dX0_minusSeconds_13 rfl

set_option maxRecDepth 100000 in
set_option maxHeartbeats 4000000 in
theorem c_X0_plusNanos (l : Launch) (G : GT) (a : Nat → Nat) (S : SX) (p0 : Int32) (p1 : Int32) (p2 : Int32) (h0 : vp_in p0 6) : WR l G yX0_plusNanos cX0_plusNanos 4 (some .int) 8 0 0 [.ref (a 0), .int p0, .int p1, .int p2] (wX G a S) (wX G a (gX0_plusNanos S p0 p1 p2).2) (some (.int (gX0_plusNanos S p0 p1 p2).1)) := by
  refine WR.ofW (own := RX0) rfl (plainFor_of_name pnN_RX0) (Nat.le_of_ble_eq_true rfl) ?_
  intro p e s m below meth c A C hr hk hnm hE hP hD hA hAB hS ls hl
  have hx := C.1
  have hb := C.2.1
  have hown := C.2.2.2.1
  have hw := C.2.2.2.2
  have hl : lv_has ls 4 [(0, .ref (a 0)), (1, .int p0), (2, .int p1), (3, .int p2)] := hl
  refine lv_iload_n hx hb dX0_plusNanos_0 rfl (lv_at hl 1 rfl) ?_
  refine rcSv (as := [.int p0]) (rest := []) C (c_X0_checkMoment l G p0 h0) F_X0_checkMoment rfl bw387 bw388 (hE.S hS hAB) vpn hl.1 dX0_plusNanos_1 ⟨Nat.le_of_ble_eq_true rfl, Nat.le_of_ble_eq_true rfl⟩ rfl (Nat.le_of_ble_eq_true rfl) ⟨Nat.le_of_ble_eq_true rfl, Nat.le_of_ble_eq_true rfl⟩ ?_
  refine lv_aload_n hx hb dX0_plusNanos_4 rfl (lv_at hl 0 rfl) ?_
  refine lv_iload_n hx hb dX0_plusNanos_5 rfl (lv_at hl 1 rfl) ?_
  refine lv_lconst (v := (0 : Int64)) hx hb dX0_plusNanos_6 ql_0 ?_
  refine lv_iload_n hx hb dX0_plusNanos_7 rfl (lv_at hl 2 rfl) ?_
  refine lv_i2l (v := (p1.toInt64)) hx hb dX0_plusNanos_8 (by first | rfl | decide) ?_
  refine lv_ldc2 (v := (1000000000 : Int64)) hx hb hown (hw _ bw160) dX0_plusNanos_9 ?_
  refine lv_lmul hx hb dX0_plusNanos_12 ?_
  refine lv_iload_n hx hb dX0_plusNanos_13 rfl (lv_at hl 3 rfl) ?_
  refine lv_i2l (v := (p2.toInt64)) hx hb dX0_plusNanos_14 (by first | rfl | decide) ?_
  refine lv_ladd hx hb dX0_plusNanos_15 ?_
  refine wcVi (as := [.int p0, .long (0 : Int64), .long (((p1.toInt64) * (1000000000 : Int64)) + (p2.toInt64))]) (rest := []) (cl := RX0) C (c_X0_goLine l G a S p0 (0 : Int64) (((p1.toInt64) * (1000000000 : Int64)) + (p2.toInt64)) h0) F_X0_goLine rfl bw572 bw574 bw27 (hE.S hS hAB) hP hD hS hA hAB (rv2 hE.K hP (q0 := 0) rfl) hl.1 dX0_plusNanos_16 ⟨Nat.le_of_ble_eq_true rfl, Nat.le_of_ble_eq_true rfl⟩ rfl (Nat.le_of_ble_eq_true rfl) ⟨Nat.le_of_ble_eq_true rfl, Nat.le_of_ble_eq_true rfl⟩ (fun H locs hP hD hS => ?_)
  exact we_i (wf := wX G a) hx hb hr hk hP hD hS (Nat.le_of_ble_eq_true rfl) (Nat.le_of_ble_eq_true rfl) dX0_plusNanos_19 rfl

set_option maxRecDepth 100000 in
set_option maxHeartbeats 4000000 in
theorem c_X0_minusNanos (l : Launch) (G : GT) (a : Nat → Nat) (S : SX) (p0 : Int32) (p1 : Int32) (p2 : Int32) (h0 : vp_in p0 6) : WR l G yX0_minusNanos cX0_minusNanos 4 (some .int) 8 0 0 [.ref (a 0), .int p0, .int p1, .int p2] (wX G a S) (wX G a (gX0_minusNanos S p0 p1 p2).2) (some (.int (gX0_minusNanos S p0 p1 p2).1)) := by
  refine WR.ofW (own := RX0) rfl (plainFor_of_name pnN_RX0) (Nat.le_of_ble_eq_true rfl) ?_
  intro p e s m below meth c A C hr hk hnm hE hP hD hA hAB hS ls hl
  have hx := C.1
  have hb := C.2.1
  have hown := C.2.2.2.1
  have hw := C.2.2.2.2
  have hl : lv_has ls 4 [(0, .ref (a 0)), (1, .int p0), (2, .int p1), (3, .int p2)] := hl
  refine lv_iload_n hx hb dX0_minusNanos_0 rfl (lv_at hl 1 rfl) ?_
  refine rcSv (as := [.int p0]) (rest := []) C (c_X0_checkMoment l G p0 h0) F_X0_checkMoment rfl bw387 bw388 (hE.S hS hAB) vpn hl.1 dX0_minusNanos_1 ⟨Nat.le_of_ble_eq_true rfl, Nat.le_of_ble_eq_true rfl⟩ rfl (Nat.le_of_ble_eq_true rfl) ⟨Nat.le_of_ble_eq_true rfl, Nat.le_of_ble_eq_true rfl⟩ ?_
  refine lv_aload_n hx hb dX0_minusNanos_4 rfl (lv_at hl 0 rfl) ?_
  refine lv_iload_n hx hb dX0_minusNanos_5 rfl (lv_at hl 1 rfl) ?_
  refine lv_lconst (v := (0 : Int64)) hx hb dX0_minusNanos_6 ql_0 ?_
  refine lv_iload_n hx hb dX0_minusNanos_7 rfl (lv_at hl 2 rfl) ?_
  refine lv_i2l (v := (p1.toInt64)) hx hb dX0_minusNanos_8 (by first | rfl | decide) ?_
  refine lv_ldc2 (v := (1000000000 : Int64)) hx hb hown (hw _ bw160) dX0_minusNanos_9 ?_
  refine lv_lmul hx hb dX0_minusNanos_12 ?_
  refine lv_iload_n hx hb dX0_minusNanos_13 rfl (lv_at hl 3 rfl) ?_
  refine lv_i2l (v := (p2.toInt64)) hx hb dX0_minusNanos_14 (by first | rfl | decide) ?_
  refine lv_ladd hx hb dX0_minusNanos_15 ?_
  refine lv_lneg hx hb dX0_minusNanos_16 ?_
  refine wcVi (as := [.int p0, .long (0 : Int64), .long (-(((p1.toInt64) * (1000000000 : Int64)) + (p2.toInt64)))]) (rest := []) (cl := RX0) C (c_X0_goLine l G a S p0 (0 : Int64) (-(((p1.toInt64) * (1000000000 : Int64)) + (p2.toInt64))) h0) F_X0_goLine rfl bw572 bw574 bw27 (hE.S hS hAB) hP hD hS hA hAB (rv2 hE.K hP (q0 := 0) rfl) hl.1 dX0_minusNanos_17 ⟨Nat.le_of_ble_eq_true rfl, Nat.le_of_ble_eq_true rfl⟩ rfl (Nat.le_of_ble_eq_true rfl) ⟨Nat.le_of_ble_eq_true rfl, Nat.le_of_ble_eq_true rfl⟩ (fun H locs hP hD hS => ?_)
  exact we_i (wf := wX G a) hx hb hr hk hP hD hS (Nat.le_of_ble_eq_true rfl) (Nat.le_of_ble_eq_true rfl) dX0_minusNanos_20 rfl

set_option maxRecDepth 100000 in
set_option maxHeartbeats 4000000 in
theorem c_X0_plusUnits (l : Launch) (G : GT) (a : Nat → Nat) (S : SX) (p0 : Int32) (p1 : Int32) (p2 : Int32) (h0 : vp_in p0 6) (r1 : ¬ p1 < (-100000 : Int32)) (q1 : p1 ≤ (100000 : Int32)) (r2 : ¬ p2 < (0 : Int32)) (q2 : p2 ≤ (13 : Int32)) : WR l G yX0_plusUnits cX0_plusUnits 4 (some .int) 8 0 0 [.ref (a 0), .int p0, .int p1, .int p2] (wX G a S) (wX G a (gX0_plusUnits S p0 p1 p2).2) (some (.int (gX0_plusUnits S p0 p1 p2).1)) := by
  refine WR.ofW (own := RX0) rfl (plainFor_of_name pnN_RX0) (Nat.le_of_ble_eq_true rfl) ?_
  intro p e s m below meth c A C hr hk hnm hE hP hD hA hAB hS ls hl
  have hx := C.1
  have hb := C.2.1
  have hown := C.2.2.2.1
  have hw := C.2.2.2.2
  have hl : lv_has ls 4 [(0, .ref (a 0)), (1, .int p0), (2, .int p1), (3, .int p2)] := hl
  refine lv_iload_n hx hb dX0_plusUnits_0 rfl (lv_at hl 1 rfl) ?_
  refine rcSv (as := [.int p0]) (rest := []) C (c_X0_checkMoment l G p0 h0) F_X0_checkMoment rfl bw387 bw388 (hE.S hS hAB) vpn hl.1 dX0_plusUnits_1 ⟨Nat.le_of_ble_eq_true rfl, Nat.le_of_ble_eq_true rfl⟩ rfl (Nat.le_of_ble_eq_true rfl) ⟨Nat.le_of_ble_eq_true rfl, Nat.le_of_ble_eq_true rfl⟩ ?_
  refine lv_iload_n hx hb dX0_plusUnits_4 rfl (lv_at hl 2 rfl) ?_
  refine lv_ldc (v := (-100000 : Int32)) hx hb hown (hw _ bw675) dX0_plusUnits_5 ?_
  refine lv_ldc (v := (100000 : Int32)) hx hb hown (hw _ bw676) dX0_plusUnits_7 ?_
  refine rcSv (as := [.int p1, .int (-100000 : Int32), .int (100000 : Int32)]) (rest := []) C (c_X0_checkRange l G p1 (-100000 : Int32) (100000 : Int32) r1 q1) F_X0_checkRange rfl bw308 bw309 (hE.S hS hAB) vpn hl.1 dX0_plusUnits_9 ⟨Nat.le_of_ble_eq_true rfl, Nat.le_of_ble_eq_true rfl⟩ rfl (Nat.le_of_ble_eq_true rfl) ⟨Nat.le_of_ble_eq_true rfl, Nat.le_of_ble_eq_true rfl⟩ ?_
  refine lv_iload_n hx hb dX0_plusUnits_12 rfl (lv_at hl 3 rfl) ?_
  refine lv_iconst (v := (0 : Int32)) hx hb dX0_plusUnits_13 qi_0 ?_
  refine lv_bipush (v := (13 : Int32)) hx hb dX0_plusUnits_14 qb_13 ?_
  refine rcSv (as := [.int p2, .int (0 : Int32), .int (13 : Int32)]) (rest := []) C (c_X0_checkRange l G p2 (0 : Int32) (13 : Int32) r2 q2) F_X0_checkRange rfl bw308 bw309 (hE.S hS hAB) vpn hl.1 dX0_plusUnits_16 ⟨Nat.le_of_ble_eq_true rfl, Nat.le_of_ble_eq_true rfl⟩ rfl (Nat.le_of_ble_eq_true rfl) ⟨Nat.le_of_ble_eq_true rfl, Nat.le_of_ble_eq_true rfl⟩ ?_
  refine lv_iload_n hx hb dX0_plusUnits_19 rfl (lv_at hl 3 rfl) ?_
  refine lv_bipush (v := (9 : Int32)) hx hb dX0_plusUnits_20 qb_9 ?_
  refine lv_icmp_ge (tgt := 34) hx hb dX0_plusUnits_22 (by decide) (fun c_1 => ?_) (fun c_1 => ?_)
  · refine lv_aload_n hx hb dX0_plusUnits_34 rfl (lv_at hl 0 rfl) ?_
    refine lv_iload_n hx hb dX0_plusUnits_35 rfl (lv_at hl 1 rfl) ?_
    refine lv_iload_n hx hb dX0_plusUnits_36 rfl (lv_at hl 2 rfl) ?_
    refine lv_i2l (v := (p1.toInt64)) hx hb dX0_plusUnits_37 (by first | rfl | decide) ?_
    refine lv_iload_n hx hb dX0_plusUnits_38 rfl (lv_at hl 3 rfl) ?_
    refine rcSl (as := [.int p2]) (rest := [.long (p1.toInt64), .int p0, .ref (a 0)]) C (c_X0_monthsOfUnit l G p2) F_X0_monthsOfUnit rfl bw677 bw678 (hE.S hS hAB) vpn hl.1 dX0_plusUnits_39 ⟨Nat.le_of_ble_eq_true rfl, Nat.le_of_ble_eq_true rfl⟩ rfl (Nat.le_of_ble_eq_true rfl) ⟨Nat.le_of_ble_eq_true rfl, Nat.le_of_ble_eq_true rfl⟩ ?_
    refine lv_lmul hx hb dX0_plusUnits_42 ?_
    refine wcVi (as := [.int p0, .long ((p1.toInt64) * (fX0_monthsOfUnit p2))]) (rest := []) (cl := RX0) C (c_X0_goMonths l G a S p0 ((p1.toInt64) * (fX0_monthsOfUnit p2)) h0) F_X0_goMonths rfl bw544 bw546 bw24 (hE.S hS hAB) hP hD hS hA hAB (rv2 hE.K hP (q0 := 0) rfl) hl.1 dX0_plusUnits_43 ⟨Nat.le_of_ble_eq_true rfl, Nat.le_of_ble_eq_true rfl⟩ rfl (Nat.le_of_ble_eq_true rfl) ⟨Nat.le_of_ble_eq_true rfl, Nat.le_of_ble_eq_true rfl⟩ (fun H locs hP hD hS => ?_)
    exact we_i (wf := wX G a) hx hb hr hk hP hD hS (Nat.le_of_ble_eq_true rfl) (Nat.le_of_ble_eq_true rfl) dX0_plusUnits_46 (if_pos c_1)
  · refine lv_aload_n hx hb dX0_plusUnits_25 rfl (lv_at hl 0 rfl) ?_
    refine lv_iload_n hx hb dX0_plusUnits_26 rfl (lv_at hl 1 rfl) ?_
    refine lv_iload_n hx hb dX0_plusUnits_27 rfl (lv_at hl 2 rfl) ?_
    refine lv_i2l (v := (p1.toInt64)) hx hb dX0_plusUnits_28 (by first | rfl | decide) ?_
    refine lv_iload_n hx hb dX0_plusUnits_29 rfl (lv_at hl 3 rfl) ?_
    refine wcVi (as := [.int p0, .long (p1.toInt64), .int p2]) (rest := []) (cl := RX0) C (c_X0_goUnits l G a S p0 (p1.toInt64) p2 h0) F_X0_goUnits rfl bw568 bw570 bw26 (hE.S hS hAB) hP hD hS hA hAB (rv2 hE.K hP (q0 := 0) rfl) hl.1 dX0_plusUnits_30 ⟨Nat.le_of_ble_eq_true rfl, Nat.le_of_ble_eq_true rfl⟩ rfl (Nat.le_of_ble_eq_true rfl) ⟨Nat.le_of_ble_eq_true rfl, Nat.le_of_ble_eq_true rfl⟩ (fun H locs hP hD hS => ?_)
    exact we_i (wf := wX G a) hx hb hr hk hP hD hS (Nat.le_of_ble_eq_true rfl) (Nat.le_of_ble_eq_true rfl) dX0_plusUnits_33 (if_neg c_1)

set_option maxRecDepth 100000 in
set_option maxHeartbeats 4000000 in
theorem c_X0_knock (l : Launch) (G : GT) (a : Nat → Nat) (S : SX) : WR l G yX0_knock cX0_knock 1 (some .int) 1 0 0 [.ref (a 0)] (wX G a S) (wX G a (gX0_knock S).2) (some (.int (gX0_knock S).1)) := by
  refine WR.ofW (own := RX0) rfl (plainFor_of_name pnN_RX0) (Nat.le_of_ble_eq_true rfl) ?_
  intro p e s m below meth c A C hr hk hnm hE hP hD hA hAB hS ls hl
  have hx := C.1
  have hb := C.2.1
  have hown := C.2.2.2.1
  have hw := C.2.2.2.2
  have hl : lv_has ls 1 [(0, .ref (a 0))] := hl
  refine lv_aload_n hx hb dX0_knock_0 rfl (lv_at hl 0 rfl) ?_
  refine lv_dup hx hb dX0_knock_1 rfl ?_
  refine va_get (D := gD G) (cl := vwCl) (tys := gT G) (ci := 2) (v := .int (xi S 6)) (C := RX0) (T := TX0) (N := 12) hx hb hw inB_X0 hown hE.K hP 0 rfl rfl 11 (by decide) (hw _ bw105) (fun _ h9 => h9) rfl dX0_knock_2 ?_
  refine lv_iconst (v := (1 : Int32)) hx hb dX0_knock_5 qi_1 ?_
  refine lv_iadd hx hb dX0_knock_6 ?_
  refine va_put (D := gD G) (cl := vwCl) (tys := gT G) (ci := 2) (v := .int ((xi S 6) + (1 : Int32))) (ty := .int) (C := RX0) (T := TX0) (N := 12) hx hb hw inB_X0 tyX0 tyX0_ok nmX0 hown hE.K hP hD hS 0 rfl rfl 11 (by decide) (hw _ bw105) (fun _ h9 => h9) rfl (by decide +kernel) rfl rfl (Nat.le_of_ble_eq_true rfl) dX0_knock_7 (fun H locs hP hD hS => ?_)
  have hP : va_P (gD G) vwCl (wX G a ((xy S), (xm S), (xd S), (xD S), (xN S), (upd (S.2.2.2.2.2) 6 ((xi S 6) + (1 : Int32))))) H := hP
  have hD : va_D A (wX G a ((xy S), (xm S), (xd S), (xD S), (xN S), (upd (S.2.2.2.2.2) 6 ((xi S 6) + (1 : Int32))))) := hD
  refine lv_aload_n hx hb dX0_knock_10 rfl (lv_at hl 0 rfl) ?_
  refine va_get (D := gD G) (cl := vwCl) (tys := gT G) (ci := 2) (v := .int ((xi S 6) + (1 : Int32))) (C := RX0) (T := TX0) (N := 12) hx hb hw inB_X0 hown hE.K hP 0 rfl rfl 11 (by decide) (hw _ bw105) (fun _ h9 => h9) rfl dX0_knock_11 ?_
  exact we_i (wf := wX G a) hx hb hr hk hP hD hS (Nat.le_of_ble_eq_true rfl) (Nat.le_of_ble_eq_true rfl) dX0_knock_14 rfl
