set_option maxRecDepth 100000 in
set_option maxHeartbeats 4000000 in
theorem c_X0_refuse (l : Launch) (G : GT) (a : Nat → Nat) (S : SX) : WR l G yX0_refuse cX0_refuse 1 (some .int) 1 0 0 [.ref (a 0)] (wX G a S) (wX G a (gX0_refuse S).2) (some (.int (gX0_refuse S).1)) := by
  refine WR.ofW (own := RX0) rfl (by decide +kernel) (Nat.le_of_ble_eq_true rfl) ?_
  intro p e s m below meth c A C hr hk hnm hE hP hD hA hAB hS ls hl
  have hx := C.1
  have hb := C.2.1
  have hown := C.2.2.2.1
  have hw := C.2.2.2.2
  have hl : lv_has ls 1 [(0, .ref (a 0))] := hl
  refine lv_aload_n hx hb dX0_refuse_0 rfl (lv_at hl 0 rfl) ?_
  refine lv_dup hx hb dX0_refuse_1 rfl ?_
  refine va_get (D := gD G) (cl := vwCl) (tys := gT G) (ci := 2) (v := .int (xi S 5)) (C := RX0) (T := TX0) (N := 12) hx hb hw inB_X0 hown hE.K hP 0 rfl rfl 10 (by decide) (hw _ bw104) (fun _ h9 => h9) rfl dX0_refuse_2 ?_
  refine lv_iconst (v := (1 : Int32)) hx hb dX0_refuse_5 (by decide) ?_
  refine lv_iadd hx hb dX0_refuse_6 ?_
  refine va_put (D := gD G) (cl := vwCl) (tys := gT G) (ci := 2) (v := .int ((xi S 5) + (1 : Int32))) (ty := .int) (C := RX0) (T := TX0) (N := 12) hx hb hw inB_X0 tyX0 tyX0_ok nmX0 hown hE.K hP hD hS 0 rfl rfl 10 (by decide) (hw _ bw104) (fun _ h9 => h9) rfl (by decide +kernel) rfl rfl (Nat.le_of_ble_eq_true rfl) dX0_refuse_7 (fun H locs hP hD hS => ?_)
  have hP : va_P (gD G) vwCl (wX G a ((xy S), (xm S), (xd S), (xD S), (xN S), (upd (S.2.2.2.2.2) 5 ((xi S 5) + (1 : Int32))))) H := hP
  have hD : va_D A (wX G a ((xy S), (xm S), (xd S), (xD S), (xN S), (upd (S.2.2.2.2.2) 5 ((xi S 5) + (1 : Int32))))) := hD
  refine lv_bipush (v := (-9 : Int32)) hx hb dX0_refuse_10 (by decide) ?_
  exact we_i (wf := wX G a) hx hb hr hk hP hD hS (Nat.le_of_ble_eq_true rfl) (Nat.le_of_ble_eq_true rfl) dX0_refuse_12 rfl

set_option maxRecDepth 100000 in
set_option maxHeartbeats 4000000 in
theorem c_X0_becomeDate (l : Launch) (G : GT) (a : Nat → Nat) (S : SX) (p0 : Int32) (p1 : Int32) (p2 : Int32) (p3 : Int32) (p4 : Int64) (h0 : vp_in p0 6) : WR l G yX0_becomeDate cX0_becomeDate 7 (some .int) 4 0 0 [.ref (a 0), .int p0, .int p1, .int p2, .int p3, .long p4] (wX G a S) (wX G a (gX0_becomeDate S p0 p1 p2 p3 p4).2) (some (.int (gX0_becomeDate S p0 p1 p2 p3 p4).1)) := by
  refine WR.ofW (own := RX0) rfl (by decide +kernel) (Nat.le_of_ble_eq_true rfl) ?_
  intro p e s m below meth c A C hr hk hnm hE hP hD hA hAB hS ls hl
  have hx := C.1
  have hb := C.2.1
  have hown := C.2.2.2.1
  have hw := C.2.2.2.2
  have hl : lv_has ls 7 [(0, .ref (a 0)), (1, .int p0), (2, .int p1), (3, .int p2), (4, .int p3), (5, .long p4)] := hl
  refine lv_iload hx hb dX0_becomeDate_0 (lv_at hl 4 rfl) ?_
  refine lv_iload_n hx hb dX0_becomeDate_2 rfl (lv_at hl 2 rfl) ?_
  refine lv_iload_n hx hb dX0_becomeDate_3 rfl (lv_at hl 3 rfl) ?_
  refine rcSi (as := [.int p1, .int p2]) (rest := [.int p3]) C (c_X0_monthLength l G p1 p2) F_X0_monthLength rfl bw210 bw211 (hE.S hS hAB) vpn hl.1 dX0_becomeDate_4 ⟨Nat.le_of_ble_eq_true rfl, Nat.le_of_ble_eq_true rfl⟩ rfl (Nat.le_of_ble_eq_true rfl) ⟨Nat.le_of_ble_eq_true rfl, Nat.le_of_ble_eq_true rfl⟩ ?_
  refine lv_icmp_le (tgt := 15) hx hb dX0_becomeDate_7 (by decide) (fun c_1 => ?_) (fun c_1 => ?_)
  · refine lv_aload_n hx hb dX0_becomeDate_15 rfl (lv_at hl 0 rfl) ?_
    refine va_get (D := gD G) (cl := vwCl) (tys := gT G) (ci := 2) (v := .ref (a 1)) (C := RX0) (T := TX0) (N := 12) hx hb hw inB_X0 hown hE.K hP 0 rfl rfl 0 (by decide) (hw _ bw94) (fun _ h9 => h9) rfl dX0_becomeDate_16 ?_
    refine lv_iload_n hx hb dX0_becomeDate_19 rfl (lv_at hl 1 rfl) ?_
    refine lv_iload_n hx hb dX0_becomeDate_20 rfl (lv_at hl 2 rfl) ?_
    refine va_iast (tys := gT G) hx hb hE.K hP hD hS 1 0 rfl rfl h0 dX0_becomeDate_21 (fun H locs hP hD hS => ?_)
    have hP : va_P (gD G) vwCl (wX G a ((upd (xy S) p0.toNatClampNeg p1), (xm S), (xd S), (xD S), (xN S), (S.2.2.2.2.2))) H := hP
    have hD : va_D A (wX G a ((upd (xy S) p0.toNatClampNeg p1), (xm S), (xd S), (xD S), (xN S), (S.2.2.2.2.2))) := hD
    refine lv_aload_n hx hb dX0_becomeDate_22 rfl (lv_at hl 0 rfl) ?_
    refine va_get (D := gD G) (cl := vwCl) (tys := gT G) (ci := 2) (v := .ref (a 2)) (C := RX0) (T := TX0) (N := 12) hx hb hw inB_X0 hown hE.K hP 0 rfl rfl 1 (by decide) (hw _ bw95) (fun _ h9 => h9) rfl dX0_becomeDate_23 ?_
    refine lv_iload_n hx hb dX0_becomeDate_26 rfl (lv_at hl 1 rfl) ?_
    refine lv_iload_n hx hb dX0_becomeDate_27 rfl (lv_at hl 3 rfl) ?_
    refine va_iast (tys := gT G) hx hb hE.K hP hD hS 2 0 rfl rfl h0 dX0_becomeDate_28 (fun H locs hP hD hS => ?_)
    have hP : va_P (gD G) vwCl (wX G a ((upd (xy S) p0.toNatClampNeg p1), (upd (xm S) p0.toNatClampNeg p2), (xd S), (xD S), (xN S), (S.2.2.2.2.2))) H := hP
    have hD : va_D A (wX G a ((upd (xy S) p0.toNatClampNeg p1), (upd (xm S) p0.toNatClampNeg p2), (xd S), (xD S), (xN S), (S.2.2.2.2.2))) := hD
    refine lv_aload_n hx hb dX0_becomeDate_29 rfl (lv_at hl 0 rfl) ?_
    refine va_get (D := gD G) (cl := vwCl) (tys := gT G) (ci := 2) (v := .ref (a 3)) (C := RX0) (T := TX0) (N := 12) hx hb hw inB_X0 hown hE.K hP 0 rfl rfl 2 (by decide) (hw _ bw96) (fun _ h9 => h9) rfl dX0_becomeDate_30 ?_
    refine lv_iload_n hx hb dX0_becomeDate_33 rfl (lv_at hl 1 rfl) ?_
    refine lv_iload hx hb dX0_becomeDate_34 (lv_at hl 4 rfl) ?_
    refine va_iast (tys := gT G) hx hb hE.K hP hD hS 3 0 rfl rfl h0 dX0_becomeDate_36 (fun H locs hP hD hS => ?_)
    have hP : va_P (gD G) vwCl (wX G a ((upd (xy S) p0.toNatClampNeg p1), (upd (xm S) p0.toNatClampNeg p2), (upd (xd S) p0.toNatClampNeg p3), (xD S), (xN S), (S.2.2.2.2.2))) H := hP
    have hD : va_D A (wX G a ((upd (xy S) p0.toNatClampNeg p1), (upd (xm S) p0.toNatClampNeg p2), (upd (xd S) p0.toNatClampNeg p3), (xD S), (xN S), (S.2.2.2.2.2))) := hD
    refine lv_aload_n hx hb dX0_becomeDate_37 rfl (lv_at hl 0 rfl) ?_
    refine va_get (D := gD G) (cl := vwCl) (tys := gT G) (ci := 2) (v := .ref (a 4)) (C := RX0) (T := TX0) (N := 12) hx hb hw inB_X0 hown hE.K hP 0 rfl rfl 3 (by decide) (hw _ bw97) (fun _ h9 => h9) rfl dX0_becomeDate_38 ?_
    refine lv_iload_n hx hb dX0_becomeDate_41 rfl (lv_at hl 1 rfl) ?_
    refine lv_iload_n hx hb dX0_becomeDate_42 rfl (lv_at hl 2 rfl) ?_
    refine lv_iload_n hx hb dX0_becomeDate_43 rfl (lv_at hl 3 rfl) ?_
    refine lv_iload hx hb dX0_becomeDate_44 (lv_at hl 4 rfl) ?_
    refine rcSl (as := [.int p1, .int p2, .int p3]) (rest := [.int p0, .ref (a 4)]) C (c_X0_dayOf l G p1 p2 p3) F_X0_dayOf rfl bw167 bw168 (hE.S hS hAB) vpn hl.1 dX0_becomeDate_46 ⟨Nat.le_of_ble_eq_true rfl, Nat.le_of_ble_eq_true rfl⟩ rfl (Nat.le_of_ble_eq_true rfl) ⟨Nat.le_of_ble_eq_true rfl, Nat.le_of_ble_eq_true rfl⟩ ?_
    refine va_last (tys := gT G) hx hb hE.K hP hD hS 4 1 rfl rfl h0 dX0_becomeDate_49 (fun H locs hP hD hS => ?_)
    have hP : va_P (gD G) vwCl (wX G a ((upd (xy S) p0.toNatClampNeg p1), (upd (xm S) p0.toNatClampNeg p2), (upd (xd S) p0.toNatClampNeg p3), (vp_updL (xD S) p0.toNatClampNeg (fX0_dayOf p1 p2 p3)), (xN S), (S.2.2.2.2.2))) H := hP
    have hD : va_D A (wX G a ((upd (xy S) p0.toNatClampNeg p1), (upd (xm S) p0.toNatClampNeg p2), (upd (xd S) p0.toNatClampNeg p3), (vp_updL (xD S) p0.toNatClampNeg (fX0_dayOf p1 p2 p3)), (xN S), (S.2.2.2.2.2))) := hD
    refine lv_aload_n hx hb dX0_becomeDate_50 rfl (lv_at hl 0 rfl) ?_
    refine va_get (D := gD G) (cl := vwCl) (tys := gT G) (ci := 2) (v := .ref (a 5)) (C := RX0) (T := TX0) (N := 12) hx hb hw inB_X0 hown hE.K hP 0 rfl rfl 4 (by decide) (hw _ bw98) (fun _ h9 => h9) rfl dX0_becomeDate_51 ?_
    refine lv_iload_n hx hb dX0_becomeDate_54 rfl (lv_at hl 1 rfl) ?_
    refine lv_lload hx hb dX0_becomeDate_55 (lv_at hl 5 rfl) ?_
    refine va_last (tys := gT G) hx hb hE.K hP hD hS 5 1 rfl rfl h0 dX0_becomeDate_57 (fun H locs hP hD hS => ?_)
    have hP : va_P (gD G) vwCl (wX G a ((upd (xy S) p0.toNatClampNeg p1), (upd (xm S) p0.toNatClampNeg p2), (upd (xd S) p0.toNatClampNeg p3), (vp_updL (xD S) p0.toNatClampNeg (fX0_dayOf p1 p2 p3)), (vp_updL (xN S) p0.toNatClampNeg p4), (S.2.2.2.2.2))) H := hP
    have hD : va_D A (wX G a ((upd (xy S) p0.toNatClampNeg p1), (upd (xm S) p0.toNatClampNeg p2), (upd (xd S) p0.toNatClampNeg p3), (vp_updL (xD S) p0.toNatClampNeg (fX0_dayOf p1 p2 p3)), (vp_updL (xN S) p0.toNatClampNeg p4), (S.2.2.2.2.2))) := hD
    refine lv_aload_n hx hb dX0_becomeDate_58 rfl (lv_at hl 0 rfl) ?_
    refine lv_dup hx hb dX0_becomeDate_59 rfl ?_
    refine va_get (D := gD G) (cl := vwCl) (tys := gT G) (ci := 2) (v := .int (xi S 4)) (C := RX0) (T := TX0) (N := 12) hx hb hw inB_X0 hown hE.K hP 0 rfl rfl 9 (by decide) (hw _ bw103) (fun _ h9 => h9) rfl dX0_becomeDate_60 ?_
    refine lv_iconst (v := (1 : Int32)) hx hb dX0_becomeDate_63 (by decide) ?_
    refine lv_iadd hx hb dX0_becomeDate_64 ?_
    refine va_put (D := gD G) (cl := vwCl) (tys := gT G) (ci := 2) (v := .int ((xi S 4) + (1 : Int32))) (ty := .int) (C := RX0) (T := TX0) (N := 12) hx hb hw inB_X0 tyX0 tyX0_ok nmX0 hown hE.K hP hD hS 0 rfl rfl 9 (by decide) (hw _ bw103) (fun _ h9 => h9) rfl (by decide +kernel) rfl rfl (Nat.le_of_ble_eq_true rfl) dX0_becomeDate_65 (fun H locs hP hD hS => ?_)
    have hP : va_P (gD G) vwCl (wX G a ((upd (xy S) p0.toNatClampNeg p1), (upd (xm S) p0.toNatClampNeg p2), (upd (xd S) p0.toNatClampNeg p3), (vp_updL (xD S) p0.toNatClampNeg (fX0_dayOf p1 p2 p3)), (vp_updL (xN S) p0.toNatClampNeg p4), (upd (S.2.2.2.2.2) 4 ((xi S 4) + (1 : Int32))))) H := hP
    have hD : va_D A (wX G a ((upd (xy S) p0.toNatClampNeg p1), (upd (xm S) p0.toNatClampNeg p2), (upd (xd S) p0.toNatClampNeg p3), (vp_updL (xD S) p0.toNatClampNeg (fX0_dayOf p1 p2 p3)), (vp_updL (xN S) p0.toNatClampNeg p4), (upd (S.2.2.2.2.2) 4 ((xi S 4) + (1 : Int32))))) := hD
    refine lv_aload_n hx hb dX0_becomeDate_68 rfl (lv_at hl 0 rfl) ?_
    refine va_get (D := gD G) (cl := vwCl) (tys := gT G) (ci := 2) (v := .ref (a 4)) (C := RX0) (T := TX0) (N := 12) hx hb hw inB_X0 hown hE.K hP 0 rfl rfl 3 (by decide) (hw _ bw97) (fun _ h9 => h9) rfl dX0_becomeDate_69 ?_
    refine lv_iload_n hx hb dX0_becomeDate_72 rfl (lv_at hl 1 rfl) ?_
    refine va_lald (tys := gT G) hx hb hE.K hP 4 1 rfl rfl h0 dX0_becomeDate_73 ?_
    refine k_foldl (y := (fX0_dayOf p1 p2 p3)) pk_uLs ?_
    refine rcSi (as := [.long (fX0_dayOf p1 p2 p3)]) (rest := []) C (c_X0_weekday l G (fX0_dayOf p1 p2 p3)) F_X0_weekday rfl bw262 bw263 (hE.S hS hAB) vpn hl.1 dX0_becomeDate_74 ⟨Nat.le_of_ble_eq_true rfl, Nat.le_of_ble_eq_true rfl⟩ rfl (Nat.le_of_ble_eq_true rfl) ⟨Nat.le_of_ble_eq_true rfl, Nat.le_of_ble_eq_true rfl⟩ ?_
    exact we_i (wf := wX G a) hx hb hr hk hP hD hS (Nat.le_of_ble_eq_true rfl) (Nat.le_of_ble_eq_true rfl) dX0_becomeDate_77 (if_pos c_1)
  · refine lv_aload_n hx hb dX0_becomeDate_10 rfl (lv_at hl 0 rfl) ?_
    refine wcVi (as := []) (rest := []) (cl := RX0) C (c_X0_refuse l G a S) F_X0_refuse rfl bw414 bw416 bw20 (hE.S hS hAB) hP hD hS hA hAB (va_recv hE.K hP (ci := 2) (q0 := 0) rfl rfl) hl.1 dX0_becomeDate_11 ⟨Nat.le_of_ble_eq_true rfl, Nat.le_of_ble_eq_true rfl⟩ rfl (Nat.le_of_ble_eq_true rfl) ⟨Nat.le_of_ble_eq_true rfl, Nat.le_of_ble_eq_true rfl⟩ (fun H locs hP hD hS => ?_)
    exact we_i (wf := wX G a) hx hb hr hk hP hD hS (Nat.le_of_ble_eq_true rfl) (Nat.le_of_ble_eq_true rfl) dX0_becomeDate_14 (if_neg c_1)

set_option maxRecDepth 100000 in
set_option maxHeartbeats 4000000 in
theorem c_X0_becomeDay (l : Launch) (G : GT) (a : Nat → Nat) (S : SX) (p0 : Int32) (p1 : Int64) (p2 : Int64) (h0 : vp_in p0 6) : WR l G yX0_becomeDay cX0_becomeDay 9 (some .int) 5 0 0 [.ref (a 0), .int p0, .long p1, .long p2] (wX G a S) (wX G a (gX0_becomeDay S p0 p1 p2).2) (some (.int (gX0_becomeDay S p0 p1 p2).1)) := by
  refine WR.ofW (own := RX0) rfl (by decide +kernel) (Nat.le_of_ble_eq_true rfl) ?_
  intro p e s m below meth c A C hr hk hnm hE hP hD hA hAB hS ls hl
  have hx := C.1
  have hb := C.2.1
  have hown := C.2.2.2.1
  have hw := C.2.2.2.2
  have hl : lv_has ls 9 [(0, .ref (a 0)), (1, .int p0), (2, .long p1), (4, .long p2)] := hl
  refine lv_lload_n hx hb dX0_becomeDay_0 rfl (lv_at hl 2 rfl) ?_
  refine lv_ldc2 (v := (-4371587 : Int64)) hx hb hown (hw _ bw431) dX0_becomeDay_1 ?_
  refine W.lcmp hx hb dX0_becomeDay_4 ?_
  refine lv_if_lt (tgt := 16) hx hb dX0_becomeDay_5 (by decide) (fun c_1 => ?_) (fun c_1 => ?_)
  · refine lv_aload_n hx hb dX0_becomeDay_16 rfl (lv_at hl 0 rfl) ?_
    refine wcVi (as := []) (rest := []) (cl := RX0) C (c_X0_refuse l G a S) F_X0_refuse rfl bw414 bw416 bw20 (hE.S hS hAB) hP hD hS hA hAB (va_recv hE.K hP (ci := 2) (q0 := 0) rfl rfl) hl.1 dX0_becomeDay_17 ⟨Nat.le_of_ble_eq_true rfl, Nat.le_of_ble_eq_true rfl⟩ rfl (Nat.le_of_ble_eq_true rfl) ⟨Nat.le_of_ble_eq_true rfl, Nat.le_of_ble_eq_true rfl⟩ (fun H locs hP hD hS => ?_)
    exact we_i (wf := wX G a) hx hb hr hk hP hD hS (Nat.le_of_ble_eq_true rfl) (Nat.le_of_ble_eq_true rfl) dX0_becomeDay_20 (if_pos c_1)
  · refine lv_lload_n hx hb dX0_becomeDay_8 rfl (lv_at hl 2 rfl) ?_
    refine lv_ldc2 (v := (2932896 : Int64)) hx hb hown (hw _ bw194) dX0_becomeDay_9 ?_
    refine W.lcmp hx hb dX0_becomeDay_12 ?_
    refine lv_if_le (tgt := 21) hx hb dX0_becomeDay_13 (by decide) (fun c_2 => ?_) (fun c_2 => ?_)
    · refine lv_lload_n hx hb dX0_becomeDay_21 rfl (lv_at hl 2 rfl) ?_
      refine rcSi (as := [.long p1]) (rest := []) C (c_X0_yearOf l G p1) F_X0_yearOf rfl bw432 bw433 (hE.S hS hAB) vpn hl.1 dX0_becomeDay_22 ⟨Nat.le_of_ble_eq_true rfl, Nat.le_of_ble_eq_true rfl⟩ rfl (Nat.le_of_ble_eq_true rfl) ⟨Nat.le_of_ble_eq_true rfl, Nat.le_of_ble_eq_true rfl⟩ ?_
      refine lv_istore (lv' := [(6, .int (fX0_yearOf p1)), (0, .ref (a 0)), (1, .int p0), (2, .long p1), (4, .long p2)]) hx hb dX0_becomeDay_25 hl (Nat.le_of_ble_eq_true rfl) rfl (fun ls hl => ?_)
      refine lv_lload_n hx hb dX0_becomeDay_27 rfl (lv_at hl 3 rfl) ?_
      refine lv_iload hx hb dX0_becomeDay_28 (lv_at hl 0 rfl) ?_
      refine rcSl (as := [.int (fX0_yearOf p1)]) (rest := [.long p1]) C (c_X0_firstDayOf l G (fX0_yearOf p1)) F_X0_firstDayOf rfl bw86 bw87 (hE.S hS hAB) vpn hl.1 dX0_becomeDay_30 ⟨Nat.le_of_ble_eq_true rfl, Nat.le_of_ble_eq_true rfl⟩ rfl (Nat.le_of_ble_eq_true rfl) ⟨Nat.le_of_ble_eq_true rfl, Nat.le_of_ble_eq_true rfl⟩ ?_
      refine lv_lsub hx hb dX0_becomeDay_33 ?_
      refine lv_l2i (v := ((p1 - (fX0_firstDayOf (fX0_yearOf p1))).toInt32)) hx hb dX0_becomeDay_34 (by first | rfl | decide) ?_
      refine lv_iconst (v := (1 : Int32)) hx hb dX0_becomeDay_35 (by decide) ?_
      refine lv_iadd hx hb dX0_becomeDay_36 ?_
      refine lv_istore (lv' := [(7, .int (((p1 - (fX0_firstDayOf (fX0_yearOf p1))).toInt32) + (1 : Int32))), (6, .int (fX0_yearOf p1)), (0, .ref (a 0)), (1, .int p0), (2, .long p1), (4, .long p2)]) hx hb dX0_becomeDay_37 hl (Nat.le_of_ble_eq_true rfl) rfl (fun ls hl => ?_)
      refine lv_iload hx hb dX0_becomeDay_39 (lv_at hl 1 rfl) ?_
      refine lv_iload hx hb dX0_becomeDay_41 (lv_at hl 0 rfl) ?_
      refine rcSi (as := [.int (fX0_yearOf p1), .int (((p1 - (fX0_firstDayOf (fX0_yearOf p1))).toInt32) + (1 : Int32))]) (rest := []) C (c_X0_monthOf l G (fX0_yearOf p1) (((p1 - (fX0_firstDayOf (fX0_yearOf p1))).toInt32) + (1 : Int32))) F_X0_monthOf rfl bw436 bw437 (hE.S hS hAB) vpn hl.1 dX0_becomeDay_43 ⟨Nat.le_of_ble_eq_true rfl, Nat.le_of_ble_eq_true rfl⟩ rfl (Nat.le_of_ble_eq_true rfl) ⟨Nat.le_of_ble_eq_true rfl, Nat.le_of_ble_eq_true rfl⟩ ?_
      refine lv_istore (lv' := [(8, .int (fX0_monthOf (fX0_yearOf p1) (((p1 - (fX0_firstDayOf (fX0_yearOf p1))).toInt32) + (1 : Int32)))), (7, .int (((p1 - (fX0_firstDayOf (fX0_yearOf p1))).toInt32) + (1 : Int32))), (6, .int (fX0_yearOf p1)), (0, .ref (a 0)), (1, .int p0), (2, .long p1), (4, .long p2)]) hx hb dX0_becomeDay_46 hl (Nat.le_of_ble_eq_true rfl) rfl (fun ls hl => ?_)
      refine lv_aload_n hx hb dX0_becomeDay_48 rfl (lv_at hl 3 rfl) ?_
      refine lv_iload_n hx hb dX0_becomeDay_49 rfl (lv_at hl 4 rfl) ?_
      refine lv_iload hx hb dX0_becomeDay_50 (lv_at hl 2 rfl) ?_
      refine lv_iload hx hb dX0_becomeDay_52 (lv_at hl 0 rfl) ?_
      refine lv_iload hx hb dX0_becomeDay_54 (lv_at hl 1 rfl) ?_
      refine lv_iload hx hb dX0_becomeDay_56 (lv_at hl 2 rfl) ?_
      refine lv_iload hx hb dX0_becomeDay_58 (lv_at hl 0 rfl) ?_
      refine rcSi (as := [.int (fX0_yearOf p1), .int (fX0_monthOf (fX0_yearOf p1) (((p1 - (fX0_firstDayOf (fX0_yearOf p1))).toInt32) + (1 : Int32)))]) (rest := [.int (((p1 - (fX0_firstDayOf (fX0_yearOf p1))).toInt32) + (1 : Int32)), .int (fX0_monthOf (fX0_yearOf p1) (((p1 - (fX0_firstDayOf (fX0_yearOf p1))).toInt32) + (1 : Int32))), .int (fX0_yearOf p1), .int p0, .ref (a 0)]) C (c_X0_daysAhead l G (fX0_yearOf p1) (fX0_monthOf (fX0_yearOf p1) (((p1 - (fX0_firstDayOf (fX0_yearOf p1))).toInt32) + (1 : Int32)))) F_X0_daysAhead rfl bw170 bw171 (hE.S hS hAB) vpn hl.1 dX0_becomeDay_60 ⟨Nat.le_of_ble_eq_true rfl, Nat.le_of_ble_eq_true rfl⟩ rfl (Nat.le_of_ble_eq_true rfl) ⟨Nat.le_of_ble_eq_true rfl, Nat.le_of_ble_eq_true rfl⟩ ?_
      refine lv_isub hx hb dX0_becomeDay_63 ?_
      refine lv_lload hx hb dX0_becomeDay_64 (lv_at hl 6 rfl) ?_
      refine wcVi (as := [.int p0, .int (fX0_yearOf p1), .int (fX0_monthOf (fX0_yearOf p1) (((p1 - (fX0_firstDayOf (fX0_yearOf p1))).toInt32) + (1 : Int32))), .int ((((p1 - (fX0_firstDayOf (fX0_yearOf p1))).toInt32) + (1 : Int32)) - (fX0_daysAhead (fX0_yearOf p1) (fX0_monthOf (fX0_yearOf p1) (((p1 - (fX0_firstDayOf (fX0_yearOf p1))).toInt32) + (1 : Int32))))), .long p2]) (rest := []) (cl := RX0) C (c_X0_becomeDate l G a S p0 (fX0_yearOf p1) (fX0_monthOf (fX0_yearOf p1) (((p1 - (fX0_firstDayOf (fX0_yearOf p1))).toInt32) + (1 : Int32))) ((((p1 - (fX0_firstDayOf (fX0_yearOf p1))).toInt32) + (1 : Int32)) - (fX0_daysAhead (fX0_yearOf p1) (fX0_monthOf (fX0_yearOf p1) (((p1 - (fX0_firstDayOf (fX0_yearOf p1))).toInt32) + (1 : Int32))))) p2 h0) F_X0_becomeDate rfl bw410 bw412 bw19 (hE.S hS hAB) hP hD hS hA hAB (va_recv hE.K hP (ci := 2) (q0 := 0) rfl rfl) hl.1 dX0_becomeDay_66 ⟨Nat.le_of_ble_eq_true rfl, Nat.le_of_ble_eq_true rfl⟩ rfl (Nat.le_of_ble_eq_true rfl) ⟨Nat.le_of_ble_eq_true rfl, Nat.le_of_ble_eq_true rfl⟩ (fun H locs hP hD hS => ?_)
      exact we_i (wf := wX G a) hx hb hr hk hP hD hS (Nat.le_of_ble_eq_true rfl) (Nat.le_of_ble_eq_true rfl) dX0_becomeDay_69 (Eq.trans (if_neg c_1) (if_pos c_2))
    · refine lv_aload_n hx hb dX0_becomeDay_16 rfl (lv_at hl 0 rfl) ?_
      refine wcVi (as := []) (rest := []) (cl := RX0) C (c_X0_refuse l G a S) F_X0_refuse rfl bw414 bw416 bw20 (hE.S hS hAB) hP hD hS hA hAB (va_recv hE.K hP (ci := 2) (q0 := 0) rfl rfl) hl.1 dX0_becomeDay_17 ⟨Nat.le_of_ble_eq_true rfl, Nat.le_of_ble_eq_true rfl⟩ rfl (Nat.le_of_ble_eq_true rfl) ⟨Nat.le_of_ble_eq_true rfl, Nat.le_of_ble_eq_true rfl⟩ (fun H locs hP hD hS => ?_)
      exact we_i (wf := wX G a) hx hb hr hk hP hD hS (Nat.le_of_ble_eq_true rfl) (Nat.le_of_ble_eq_true rfl) dX0_becomeDay_20 (Eq.trans (if_neg c_1) (if_neg c_2))

