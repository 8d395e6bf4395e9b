set_option maxRecDepth 100000 in
set_option maxHeartbeats 4000000 in
theorem c_X0_yearDay (l : Launch) (G : GT) (a : Nat → Nat) (S : SX) (p0 : Int32) (h0 : vp_in p0 6) : RO l G yX0_yearDay cX0_yearDay 2 (some .int) 3 [.ref (a 0), .int p0] (wX G a S) (some (.int (fX0_yearDay S p0))) := by
  refine RO.ofW (own := RX0) rfl (plainFor_of_name pnN_RX0) (Nat.le_of_ble_eq_true rfl) ?_
  intro p e s m below meth c C hr hk hE hP ls hl
  have hx := C.1
  have hb := C.2.1
  have hown := C.2.2.2.1
  have hw := C.2.2.2.2
  have hl : lv_has ls 2 [(0, .ref (a 0)), (1, .int p0)] := hl
  refine lv_aload_n hx hb dX0_yearDay_0 rfl (lv_at hl 0 rfl) ?_
  refine va_get (D := gD G) (cl := vwCl) (tys := gT G) (ci := 2) (v := .ref (a 1)) (C := RX0) (T := TX0) (N := 12) hx hb hw inB_X0 hown hE.K hP 0 rfl rfl 0 (by decide) (hw _ bw94) (fun _ h9 => h9) rfl dX0_yearDay_1 ?_
  refine lv_iload_n hx hb dX0_yearDay_4 rfl (lv_at hl 1 rfl) ?_
  refine va_iald (tys := gT G) hx hb hE.K hP 1 0 rfl rfl h0 dX0_yearDay_5 ?_
  refine lv_aload_n hx hb dX0_yearDay_6 rfl (lv_at hl 0 rfl) ?_
  refine va_get (D := gD G) (cl := vwCl) (tys := gT G) (ci := 2) (v := .ref (a 2)) (C := RX0) (T := TX0) (N := 12) hx hb hw inB_X0 hown hE.K hP 0 rfl rfl 1 (by decide) (hw _ bw95) (fun _ h9 => h9) rfl dX0_yearDay_7 ?_
  refine lv_iload_n hx hb dX0_yearDay_10 rfl (lv_at hl 1 rfl) ?_
  refine va_iald (tys := gT G) hx hb hE.K hP 2 0 rfl rfl h0 dX0_yearDay_11 ?_
  refine rcSi (as := [.int (xy S p0.toNatClampNeg), .int (xm S p0.toNatClampNeg)]) (rest := []) C (c_X0_daysAhead l G (xy S p0.toNatClampNeg) (xm S p0.toNatClampNeg)) F_X0_daysAhead rfl bw170 bw171 hE vpn hl.1 dX0_yearDay_12 ⟨Nat.le_of_ble_eq_true rfl, Nat.le_of_ble_eq_true rfl⟩ rfl (Nat.le_of_ble_eq_true rfl) ⟨Nat.zero_le _, Nat.zero_le _⟩ ?_
  refine lv_aload_n hx hb dX0_yearDay_15 rfl (lv_at hl 0 rfl) ?_
  refine va_get (D := gD G) (cl := vwCl) (tys := gT G) (ci := 2) (v := .ref (a 3)) (C := RX0) (T := TX0) (N := 12) hx hb hw inB_X0 hown hE.K hP 0 rfl rfl 2 (by decide) (hw _ bw96) (fun _ h9 => h9) rfl dX0_yearDay_16 ?_
  refine lv_iload_n hx hb dX0_yearDay_19 rfl (lv_at hl 1 rfl) ?_
  refine va_iald (tys := gT G) hx hb hE.K hP 3 0 rfl rfl h0 dX0_yearDay_20 ?_
  refine lv_iadd hx hb dX0_yearDay_21 ?_
  exact re_i hx hb hr hk dX0_yearDay_22 (ei rfl)

set_option maxRecDepth 100000 in
set_option maxHeartbeats 4000000 in
theorem c_X0_monthCount (l : Launch) (G : GT) (a : Nat → Nat) (S : SX) (p0 : Int32) (h0 : vp_in p0 6) : RO l G yX0_monthCount cX0_monthCount 2 (some .long) 1 [.ref (a 0), .int p0] (wX G a S) (some (.long (fX0_monthCount S p0))) := by
  refine RO.ofW (own := RX0) rfl (plainFor_of_name pnN_RX0) (Nat.le_of_ble_eq_true rfl) ?_
  intro p e s m below meth c C hr hk hE hP ls hl
  have hx := C.1
  have hb := C.2.1
  have hown := C.2.2.2.1
  have hw := C.2.2.2.2
  have hl : lv_has ls 2 [(0, .ref (a 0)), (1, .int p0)] := hl
  refine lv_ldc2 (v := (12 : Int64)) hx hb hown (hw _ bw543) dX0_monthCount_0 ?_
  refine lv_aload_n hx hb dX0_monthCount_3 rfl (lv_at hl 0 rfl) ?_
  refine va_get (D := gD G) (cl := vwCl) (tys := gT G) (ci := 2) (v := .ref (a 1)) (C := RX0) (T := TX0) (N := 12) hx hb hw inB_X0 hown hE.K hP 0 rfl rfl 0 (by decide) (hw _ bw94) (fun _ h9 => h9) rfl dX0_monthCount_4 ?_
  refine lv_iload_n hx hb dX0_monthCount_7 rfl (lv_at hl 1 rfl) ?_
  refine va_iald (tys := gT G) hx hb hE.K hP 1 0 rfl rfl h0 dX0_monthCount_8 ?_
  refine lv_i2l (v := ((xy S p0.toNatClampNeg).toInt64)) hx hb dX0_monthCount_9 (by first | rfl | decide) ?_
  refine lv_lmul hx hb dX0_monthCount_10 ?_
  refine lv_aload_n hx hb dX0_monthCount_11 rfl (lv_at hl 0 rfl) ?_
  refine va_get (D := gD G) (cl := vwCl) (tys := gT G) (ci := 2) (v := .ref (a 2)) (C := RX0) (T := TX0) (N := 12) hx hb hw inB_X0 hown hE.K hP 0 rfl rfl 1 (by decide) (hw _ bw95) (fun _ h9 => h9) rfl dX0_monthCount_12 ?_
  refine lv_iload_n hx hb dX0_monthCount_15 rfl (lv_at hl 1 rfl) ?_
  refine va_iald (tys := gT G) hx hb hE.K hP 2 0 rfl rfl h0 dX0_monthCount_16 ?_
  refine lv_i2l (v := ((xm S p0.toNatClampNeg).toInt64)) hx hb dX0_monthCount_17 (by first | rfl | decide) ?_
  refine lv_ladd hx hb dX0_monthCount_18 ?_
  refine lv_lconst (v := (1 : Int64)) hx hb dX0_monthCount_19 ql_1 ?_
  refine lv_lsub hx hb dX0_monthCount_20 ?_
  exact re_l hx hb hr hk dX0_monthCount_21 (el rfl)

set_option maxRecDepth 100000 in
set_option maxHeartbeats 4000000 in
theorem c_X0_handTime (l : Launch) (G : GT) (a : Nat → Nat) (S : SX) (p0 : Int32) : RO l G yX0_handTime cX0_handTime 5 (some .long) 2 [.ref (a 0), .int p0] (wX G a S) (some (.long (fX0_handTime S p0))) := by
  refine RO.ofW (own := RX0) rfl (plainFor_of_name pnN_RX0) (Nat.le_of_ble_eq_true rfl) ?_
  intro p e s m below meth c C hr hk hE hP ls hl
  have hx := C.1
  have hb := C.2.1
  have hown := C.2.2.2.1
  have hw := C.2.2.2.2
  have hl : lv_has ls 5 [(0, .ref (a 0)), (1, .int p0)] := hl
  refine lv_iload_n hx hb dX0_handTime_0 rfl (lv_at hl 1 rfl) ?_
  refine lv_bipush (v := (6 : Int32)) hx hb dX0_handTime_1 qb_6 ?_
  refine lv_icmp_ne (tgt := 10) hx hb dX0_handTime_3 (by decide) (fun c_1 => ?_) (fun c_1 => ?_)
  · refine lv_iload_n hx hb dX0_handTime_10 rfl (lv_at hl 1 rfl) ?_
    refine lv_iconst (v := (3 : Int32)) hx hb dX0_handTime_11 qi_3 ?_
    refine lv_irem hx hb dX0_handTime_12 (by decide) ?_
    refine lv_istore_n (lv' := [(2, .int (p0 - p0 / (3 : Int32) * (3 : Int32))), (0, .ref (a 0)), (1, .int p0)]) hx hb dX0_handTime_13 rfl hl (Nat.le_of_ble_eq_true rfl) rfl (fun ls hl => ?_)
    refine lv_iload_n hx hb dX0_handTime_14 rfl (lv_at hl 0 rfl) ?_
    refine lv_iconst (v := (1 : Int32)) hx hb dX0_handTime_15 qi_1 ?_
    refine lv_icmp_lt (tgt := 26) hx hb dX0_handTime_16 (by decide) (fun c_2 => ?_) (fun c_2 => ?_)
    · refine lv_iconst (v := (0 : Int32)) hx hb dX0_handTime_26 qi_0 ?_
      refine lv_istore_n (lv' := [(3, .int (0 : Int32)), (2, .int (p0 - p0 / (3 : Int32) * (3 : Int32))), (0, .ref (a 0)), (1, .int p0)]) hx hb dX0_handTime_27 rfl hl (Nat.le_of_ble_eq_true rfl) rfl (fun ls hl => ?_)
      refine lv_iload_n hx hb dX0_handTime_28 rfl (lv_at hl 1 rfl) ?_
      refine lv_iconst (v := (2 : Int32)) hx hb dX0_handTime_29 qi_2 ?_
      refine lv_icmp_lt (tgt := 40) hx hb dX0_handTime_30 (by decide) (fun c_3 => ?_) (fun c_3 => ?_)
      · refine lv_iconst (v := (0 : Int32)) hx hb dX0_handTime_40 qi_0 ?_
        refine lv_istore (lv' := [(4, .int (0 : Int32)), (3, .int (0 : Int32)), (2, .int (p0 - p0 / (3 : Int32) * (3 : Int32))), (0, .ref (a 0)), (1, .int p0)]) hx hb dX0_handTime_41 hl (Nat.le_of_ble_eq_true rfl) rfl (fun ls hl => ?_)
        refine lv_aload_n hx hb dX0_handTime_43 rfl (lv_at hl 3 rfl) ?_
        refine va_get (D := gD G) (cl := vwCl) (tys := gT G) (ci := 2) (v := .int (xi S 0)) (C := RX0) (T := TX0) (N := 12) hx hb hw inB_X0 hown hE.K hP 0 rfl rfl 5 (by decide) (hw _ bw99) (fun _ h9 => h9) rfl dX0_handTime_44 ?_
        refine lv_aload_n hx hb dX0_handTime_47 rfl (lv_at hl 3 rfl) ?_
        refine va_get (D := gD G) (cl := vwCl) (tys := gT G) (ci := 2) (v := .int (xi S 1)) (C := RX0) (T := TX0) (N := 12) hx hb hw inB_X0 hown hE.K hP 0 rfl rfl 6 (by decide) (hw _ bw100) (fun _ h9 => h9) rfl dX0_handTime_48 ?_
        refine lv_iload_n hx hb dX0_handTime_51 rfl (lv_at hl 1 rfl) ?_
        refine lv_iload hx hb dX0_handTime_52 (lv_at hl 0 rfl) ?_
        refine rcSl (as := [.int (xi S 0), .int (xi S 1), .int (0 : Int32), .int (0 : Int32)]) (rest := []) C (c_X0_timeOf l G (xi S 0) (xi S 1) (0 : Int32) (0 : Int32)) F_X0_timeOf rfl bw164 bw165 hE vpn hl.1 dX0_handTime_54 ⟨Nat.le_of_ble_eq_true rfl, Nat.le_of_ble_eq_true rfl⟩ rfl (Nat.le_of_ble_eq_true rfl) ⟨Nat.zero_le _, Nat.zero_le _⟩ ?_
        exact re_l hx hb hr hk dX0_handTime_57 (el (Eq.trans (if_neg c_1) (Eq.trans (if_pos c_2) (if_pos c_3))))
      · refine lv_aload_n hx hb dX0_handTime_33 rfl (lv_at hl 2 rfl) ?_
        refine va_get (D := gD G) (cl := vwCl) (tys := gT G) (ci := 2) (v := .int (xi S 3)) (C := RX0) (T := TX0) (N := 12) hx hb hw inB_X0 hown hE.K hP 0 rfl rfl 8 (by decide) (hw _ bw102) (fun _ h9 => h9) rfl dX0_handTime_34 ?_
        refine lv_goto (tgt := 41) hx hb dX0_handTime_37 (by decide) ?_
        refine lv_istore (lv' := [(4, .int (xi S 3)), (3, .int (0 : Int32)), (2, .int (p0 - p0 / (3 : Int32) * (3 : Int32))), (0, .ref (a 0)), (1, .int p0)]) hx hb dX0_handTime_41 hl (Nat.le_of_ble_eq_true rfl) rfl (fun ls hl => ?_)
        refine lv_aload_n hx hb dX0_handTime_43 rfl (lv_at hl 3 rfl) ?_
        refine va_get (D := gD G) (cl := vwCl) (tys := gT G) (ci := 2) (v := .int (xi S 0)) (C := RX0) (T := TX0) (N := 12) hx hb hw inB_X0 hown hE.K hP 0 rfl rfl 5 (by decide) (hw _ bw99) (fun _ h9 => h9) rfl dX0_handTime_44 ?_
        refine lv_aload_n hx hb dX0_handTime_47 rfl (lv_at hl 3 rfl) ?_
        refine va_get (D := gD G) (cl := vwCl) (tys := gT G) (ci := 2) (v := .int (xi S 1)) (C := RX0) (T := TX0) (N := 12) hx hb hw inB_X0 hown hE.K hP 0 rfl rfl 6 (by decide) (hw _ bw100) (fun _ h9 => h9) rfl dX0_handTime_48 ?_
        refine lv_iload_n hx hb dX0_handTime_51 rfl (lv_at hl 1 rfl) ?_
        refine lv_iload hx hb dX0_handTime_52 (lv_at hl 0 rfl) ?_
        refine rcSl (as := [.int (xi S 0), .int (xi S 1), .int (0 : Int32), .int (xi S 3)]) (rest := []) C (c_X0_timeOf l G (xi S 0) (xi S 1) (0 : Int32) (xi S 3)) F_X0_timeOf rfl bw164 bw165 hE vpn hl.1 dX0_handTime_54 ⟨Nat.le_of_ble_eq_true rfl, Nat.le_of_ble_eq_true rfl⟩ rfl (Nat.le_of_ble_eq_true rfl) ⟨Nat.zero_le _, Nat.zero_le _⟩ ?_
        exact re_l hx hb hr hk dX0_handTime_57 (el (Eq.trans (if_neg c_1) (Eq.trans (if_pos c_2) (if_neg c_3))))
    · refine lv_aload_n hx hb dX0_handTime_19 rfl (lv_at hl 1 rfl) ?_
      refine va_get (D := gD G) (cl := vwCl) (tys := gT G) (ci := 2) (v := .int (xi S 2)) (C := RX0) (T := TX0) (N := 12) hx hb hw inB_X0 hown hE.K hP 0 rfl rfl 7 (by decide) (hw _ bw101) (fun _ h9 => h9) rfl dX0_handTime_20 ?_
      refine lv_goto (tgt := 27) hx hb dX0_handTime_23 (by decide) ?_
      refine lv_istore_n (lv' := [(3, .int (xi S 2)), (2, .int (p0 - p0 / (3 : Int32) * (3 : Int32))), (0, .ref (a 0)), (1, .int p0)]) hx hb dX0_handTime_27 rfl hl (Nat.le_of_ble_eq_true rfl) rfl (fun ls hl => ?_)
      refine lv_iload_n hx hb dX0_handTime_28 rfl (lv_at hl 1 rfl) ?_
      refine lv_iconst (v := (2 : Int32)) hx hb dX0_handTime_29 qi_2 ?_
      refine lv_icmp_lt (tgt := 40) hx hb dX0_handTime_30 (by decide) (fun c_4 => ?_) (fun c_4 => ?_)
      · refine lv_iconst (v := (0 : Int32)) hx hb dX0_handTime_40 qi_0 ?_
        refine lv_istore (lv' := [(4, .int (0 : Int32)), (3, .int (xi S 2)), (2, .int (p0 - p0 / (3 : Int32) * (3 : Int32))), (0, .ref (a 0)), (1, .int p0)]) hx hb dX0_handTime_41 hl (Nat.le_of_ble_eq_true rfl) rfl (fun ls hl => ?_)
        refine lv_aload_n hx hb dX0_handTime_43 rfl (lv_at hl 3 rfl) ?_
        refine va_get (D := gD G) (cl := vwCl) (tys := gT G) (ci := 2) (v := .int (xi S 0)) (C := RX0) (T := TX0) (N := 12) hx hb hw inB_X0 hown hE.K hP 0 rfl rfl 5 (by decide) (hw _ bw99) (fun _ h9 => h9) rfl dX0_handTime_44 ?_
        refine lv_aload_n hx hb dX0_handTime_47 rfl (lv_at hl 3 rfl) ?_
        refine va_get (D := gD G) (cl := vwCl) (tys := gT G) (ci := 2) (v := .int (xi S 1)) (C := RX0) (T := TX0) (N := 12) hx hb hw inB_X0 hown hE.K hP 0 rfl rfl 6 (by decide) (hw _ bw100) (fun _ h9 => h9) rfl dX0_handTime_48 ?_
        refine lv_iload_n hx hb dX0_handTime_51 rfl (lv_at hl 1 rfl) ?_
        refine lv_iload hx hb dX0_handTime_52 (lv_at hl 0 rfl) ?_
        refine rcSl (as := [.int (xi S 0), .int (xi S 1), .int (xi S 2), .int (0 : Int32)]) (rest := []) C (c_X0_timeOf l G (xi S 0) (xi S 1) (xi S 2) (0 : Int32)) F_X0_timeOf rfl bw164 bw165 hE vpn hl.1 dX0_handTime_54 ⟨Nat.le_of_ble_eq_true rfl, Nat.le_of_ble_eq_true rfl⟩ rfl (Nat.le_of_ble_eq_true rfl) ⟨Nat.zero_le _, Nat.zero_le _⟩ ?_
        exact re_l hx hb hr hk dX0_handTime_57 (el (Eq.trans (if_neg c_1) (Eq.trans (if_neg c_2) (if_pos c_4))))
      · refine lv_aload_n hx hb dX0_handTime_33 rfl (lv_at hl 2 rfl) ?_
        refine va_get (D := gD G) (cl := vwCl) (tys := gT G) (ci := 2) (v := .int (xi S 3)) (C := RX0) (T := TX0) (N := 12) hx hb hw inB_X0 hown hE.K hP 0 rfl rfl 8 (by decide) (hw _ bw102) (fun _ h9 => h9) rfl dX0_handTime_34 ?_
        refine lv_goto (tgt := 41) hx hb dX0_handTime_37 (by decide) ?_
        refine lv_istore (lv' := [(4, .int (xi S 3)), (3, .int (xi S 2)), (2, .int (p0 - p0 / (3 : Int32) * (3 : Int32))), (0, .ref (a 0)), (1, .int p0)]) hx hb dX0_handTime_41 hl (Nat.le_of_ble_eq_true rfl) rfl (fun ls hl => ?_)
        refine lv_aload_n hx hb dX0_handTime_43 rfl (lv_at hl 3 rfl) ?_
        refine va_get (D := gD G) (cl := vwCl) (tys := gT G) (ci := 2) (v := .int (xi S 0)) (C := RX0) (T := TX0) (N := 12) hx hb hw inB_X0 hown hE.K hP 0 rfl rfl 5 (by decide) (hw _ bw99) (fun _ h9 => h9) rfl dX0_handTime_44 ?_
        refine lv_aload_n hx hb dX0_handTime_47 rfl (lv_at hl 3 rfl) ?_
        refine va_get (D := gD G) (cl := vwCl) (tys := gT G) (ci := 2) (v := .int (xi S 1)) (C := RX0) (T := TX0) (N := 12) hx hb hw inB_X0 hown hE.K hP 0 rfl rfl 6 (by decide) (hw _ bw100) (fun _ h9 => h9) rfl dX0_handTime_48 ?_
        refine lv_iload_n hx hb dX0_handTime_51 rfl (lv_at hl 1 rfl) ?_
        refine lv_iload hx hb dX0_handTime_52 (lv_at hl 0 rfl) ?_
        refine rcSl (as := [.int (xi S 0), .int (xi S 1), .int (xi S 2), .int (xi S 3)]) (rest := []) C (c_X0_timeOf l G (xi S 0) (xi S 1) (xi S 2) (xi S 3)) F_X0_timeOf rfl bw164 bw165 hE vpn hl.1 dX0_handTime_54 ⟨Nat.le_of_ble_eq_true rfl, Nat.le_of_ble_eq_true rfl⟩ rfl (Nat.le_of_ble_eq_true rfl) ⟨Nat.zero_le _, Nat.zero_le _⟩ ?_
        exact re_l hx hb hr hk dX0_handTime_57 (el (Eq.trans (if_neg c_1) (Eq.trans (if_neg c_2) (if_neg c_4))))
  · refine lv_iconst (v := (2 : Int32)) hx hb dX0_handTime_6 qi_2 ?_
    refine lv_goto (tgt := 13) hx hb dX0_handTime_7 (by decide) ?_
    refine lv_istore_n (lv' := [(2, .int (2 : Int32)), (0, .ref (a 0)), (1, .int p0)]) hx hb dX0_handTime_13 rfl hl (Nat.le_of_ble_eq_true rfl) rfl (fun ls hl => ?_)
    refine lv_iload_n hx hb dX0_handTime_14 rfl (lv_at hl 0 rfl) ?_
    refine lv_iconst (v := (1 : Int32)) hx hb dX0_handTime_15 qi_1 ?_
    refine lv_icmp_lt (tgt := 26) hx hb dX0_handTime_16 (by decide) (fun c_x => absurd c_x (by decide)) (fun _ => ?_)
    refine lv_aload_n hx hb dX0_handTime_19 rfl (lv_at hl 1 rfl) ?_
    refine va_get (D := gD G) (cl := vwCl) (tys := gT G) (ci := 2) (v := .int (xi S 2)) (C := RX0) (T := TX0) (N := 12) hx hb hw inB_X0 hown hE.K hP 0 rfl rfl 7 (by decide) (hw _ bw101) (fun _ h9 => h9) rfl dX0_handTime_20 ?_
    refine lv_goto (tgt := 27) hx hb dX0_handTime_23 (by decide) ?_
    refine lv_istore_n (lv' := [(3, .int (xi S 2)), (2, .int (2 : Int32)), (0, .ref (a 0)), (1, .int p0)]) hx hb dX0_handTime_27 rfl hl (Nat.le_of_ble_eq_true rfl) rfl (fun ls hl => ?_)
    refine lv_iload_n hx hb dX0_handTime_28 rfl (lv_at hl 1 rfl) ?_
    refine lv_iconst (v := (2 : Int32)) hx hb dX0_handTime_29 qi_2 ?_
    refine lv_icmp_lt (tgt := 40) hx hb dX0_handTime_30 (by decide) (fun c_x => absurd c_x (by decide)) (fun _ => ?_)
    refine lv_aload_n hx hb dX0_handTime_33 rfl (lv_at hl 2 rfl) ?_
    refine va_get (D := gD G) (cl := vwCl) (tys := gT G) (ci := 2) (v := .int (xi S 3)) (C := RX0) (T := TX0) (N := 12) hx hb hw inB_X0 hown hE.K hP 0 rfl rfl 8 (by decide) (hw _ bw102) (fun _ h9 => h9) rfl dX0_handTime_34 ?_
    refine lv_goto (tgt := 41) hx hb dX0_handTime_37 (by decide) ?_
    refine lv_istore (lv' := [(4, .int (xi S 3)), (3, .int (xi S 2)), (2, .int (2 : Int32)), (0, .ref (a 0)), (1, .int p0)]) hx hb dX0_handTime_41 hl (Nat.le_of_ble_eq_true rfl) rfl (fun ls hl => ?_)
    refine lv_aload_n hx hb dX0_handTime_43 rfl (lv_at hl 3 rfl) ?_
    refine va_get (D := gD G) (cl := vwCl) (tys := gT G) (ci := 2) (v := .int (xi S 0)) (C := RX0) (T := TX0) (N := 12) hx hb hw inB_X0 hown hE.K hP 0 rfl rfl 5 (by decide) (hw _ bw99) (fun _ h9 => h9) rfl dX0_handTime_44 ?_
    refine lv_aload_n hx hb dX0_handTime_47 rfl (lv_at hl 3 rfl) ?_
    refine va_get (D := gD G) (cl := vwCl) (tys := gT G) (ci := 2) (v := .int (xi S 1)) (C := RX0) (T := TX0) (N := 12) hx hb hw inB_X0 hown hE.K hP 0 rfl rfl 6 (by decide) (hw _ bw100) (fun _ h9 => h9) rfl dX0_handTime_48 ?_
    refine lv_iload_n hx hb dX0_handTime_51 rfl (lv_at hl 1 rfl) ?_
    refine lv_iload hx hb dX0_handTime_52 (lv_at hl 0 rfl) ?_
    refine rcSl (as := [.int (xi S 0), .int (xi S 1), .int (xi S 2), .int (xi S 3)]) (rest := []) C (c_X0_timeOf l G (xi S 0) (xi S 1) (xi S 2) (xi S 3)) F_X0_timeOf rfl bw164 bw165 hE vpn hl.1 dX0_handTime_54 ⟨Nat.le_of_ble_eq_true rfl, Nat.le_of_ble_eq_true rfl⟩ rfl (Nat.le_of_ble_eq_true rfl) ⟨Nat.zero_le _, Nat.zero_le _⟩ ?_
    exact re_l hx hb hr hk dX0_handTime_57 (el (if_pos c_1))

set_option maxRecDepth 100000 in
set_option maxHeartbeats 4000000 in
theorem c_X0_order (l : Launch) (G : GT) (a : Nat → Nat) (S : SX) (p0 : Int32) (p1 : Int32) (h0 : vp_in p0 6) (h1 : vp_in p1 6) : RO l G yX0_order cX0_order 3 (some .int) 1 [.ref (a 0), .int p0, .int p1] (wX G a S) (some (.int (fX0_order S p0 p1))) := by
  refine RO.ofW (own := RX0) rfl (plainFor_of_name pnN_RX0) (Nat.le_of_ble_eq_true rfl) ?_
  intro p e s m below meth c C hr hk hE hP ls hl
  have hx := C.1
  have hb := C.2.1
  have hown := C.2.2.2.1
  have hw := C.2.2.2.2
  have hl : lv_has ls 3 [(0, .ref (a 0)), (1, .int p0), (2, .int p1)] := hl
  refine lv_aload_n hx hb dX0_order_0 rfl (lv_at hl 0 rfl) ?_
  refine va_get (D := gD G) (cl := vwCl) (tys := gT G) (ci := 2) (v := .ref (a 4)) (C := RX0) (T := TX0) (N := 12) hx hb hw inB_X0 hown hE.K hP 0 rfl rfl 3 (by decide) (hw _ bw97) (fun _ h9 => h9) rfl dX0_order_1 ?_
  refine lv_iload_n hx hb dX0_order_4 rfl (lv_at hl 1 rfl) ?_
  refine va_lald (tys := gT G) hx hb hE.K hP 4 1 rfl rfl h0 dX0_order_5 ?_
  refine lv_aload_n hx hb dX0_order_6 rfl (lv_at hl 0 rfl) ?_
  refine va_get (D := gD G) (cl := vwCl) (tys := gT G) (ci := 2) (v := .ref (a 4)) (C := RX0) (T := TX0) (N := 12) hx hb hw inB_X0 hown hE.K hP 0 rfl rfl 3 (by decide) (hw _ bw97) (fun _ h9 => h9) rfl dX0_order_7 ?_
  refine lv_iload_n hx hb dX0_order_10 rfl (lv_at hl 2 rfl) ?_
  refine va_lald (tys := gT G) hx hb hE.K hP 4 1 rfl rfl h1 dX0_order_11 ?_
  refine W.lcmp hx hb dX0_order_12 ?_
  refine lv_if_eq (tgt := 38) hx hb dX0_order_13 (by decide) (fun c_1 => ?_) (fun c_1 => ?_)
  · refine lv_aload_n hx hb dX0_order_38 rfl (lv_at hl 0 rfl) ?_
    refine va_get (D := gD G) (cl := vwCl) (tys := gT G) (ci := 2) (v := .ref (a 5)) (C := RX0) (T := TX0) (N := 12) hx hb hw inB_X0 hown hE.K hP 0 rfl rfl 4 (by decide) (hw _ bw98) (fun _ h9 => h9) rfl dX0_order_39 ?_
    refine lv_iload_n hx hb dX0_order_42 rfl (lv_at hl 1 rfl) ?_
    refine va_lald (tys := gT G) hx hb hE.K hP 5 1 rfl rfl h0 dX0_order_43 ?_
    refine lv_aload_n hx hb dX0_order_44 rfl (lv_at hl 0 rfl) ?_
    refine va_get (D := gD G) (cl := vwCl) (tys := gT G) (ci := 2) (v := .ref (a 5)) (C := RX0) (T := TX0) (N := 12) hx hb hw inB_X0 hown hE.K hP 0 rfl rfl 4 (by decide) (hw _ bw98) (fun _ h9 => h9) rfl dX0_order_45 ?_
    refine lv_iload_n hx hb dX0_order_48 rfl (lv_at hl 2 rfl) ?_
    refine va_lald (tys := gT G) hx hb hE.K hP 5 1 rfl rfl h1 dX0_order_49 ?_
    refine W.lcmp hx hb dX0_order_50 ?_
    refine lv_if_eq (tgt := 76) hx hb dX0_order_51 (by decide) (fun c_2 => ?_) (fun c_2 => ?_)
    · refine lv_iconst (v := (0 : Int32)) hx hb dX0_order_76 qi_0 ?_
      exact re_i hx hb hr hk dX0_order_77 (ei (Eq.trans (if_pos c_1) (if_pos c_2)))
    · refine lv_aload_n hx hb dX0_order_54 rfl (lv_at hl 0 rfl) ?_
      refine va_get (D := gD G) (cl := vwCl) (tys := gT G) (ci := 2) (v := .ref (a 5)) (C := RX0) (T := TX0) (N := 12) hx hb hw inB_X0 hown hE.K hP 0 rfl rfl 4 (by decide) (hw _ bw98) (fun _ h9 => h9) rfl dX0_order_55 ?_
      refine lv_iload_n hx hb dX0_order_58 rfl (lv_at hl 1 rfl) ?_
      refine va_lald (tys := gT G) hx hb hE.K hP 5 1 rfl rfl h0 dX0_order_59 ?_
      refine lv_aload_n hx hb dX0_order_60 rfl (lv_at hl 0 rfl) ?_
      refine va_get (D := gD G) (cl := vwCl) (tys := gT G) (ci := 2) (v := .ref (a 5)) (C := RX0) (T := TX0) (N := 12) hx hb hw inB_X0 hown hE.K hP 0 rfl rfl 4 (by decide) (hw _ bw98) (fun _ h9 => h9) rfl dX0_order_61 ?_
      refine lv_iload_n hx hb dX0_order_64 rfl (lv_at hl 2 rfl) ?_
      refine va_lald (tys := gT G) hx hb hE.K hP 5 1 rfl rfl h1 dX0_order_65 ?_
      refine W.lcmp hx hb dX0_order_66 ?_
      refine lv_if_ge (tgt := 74) hx hb dX0_order_67 (by decide) (fun c_3 => ?_) (fun c_3 => ?_)
      · refine lv_iconst (v := (1 : Int32)) hx hb dX0_order_74 qi_1 ?_
        exact re_i hx hb hr hk dX0_order_75 (ei (Eq.trans (if_pos c_1) (Eq.trans (if_neg c_2) (if_pos c_3))))
      · refine lv_iconst (v := (-1 : Int32)) hx hb dX0_order_70 qi_m1 ?_
        refine lv_goto (tgt := 75) hx hb dX0_order_71 (by decide) ?_
        exact re_i hx hb hr hk dX0_order_75 (ei (Eq.trans (if_pos c_1) (Eq.trans (if_neg c_2) (if_neg c_3))))
  · refine lv_aload_n hx hb dX0_order_16 rfl (lv_at hl 0 rfl) ?_
    refine va_get (D := gD G) (cl := vwCl) (tys := gT G) (ci := 2) (v := .ref (a 4)) (C := RX0) (T := TX0) (N := 12) hx hb hw inB_X0 hown hE.K hP 0 rfl rfl 3 (by decide) (hw _ bw97) (fun _ h9 => h9) rfl dX0_order_17 ?_
    refine lv_iload_n hx hb dX0_order_20 rfl (lv_at hl 1 rfl) ?_
    refine va_lald (tys := gT G) hx hb hE.K hP 4 1 rfl rfl h0 dX0_order_21 ?_
    refine lv_aload_n hx hb dX0_order_22 rfl (lv_at hl 0 rfl) ?_
    refine va_get (D := gD G) (cl := vwCl) (tys := gT G) (ci := 2) (v := .ref (a 4)) (C := RX0) (T := TX0) (N := 12) hx hb hw inB_X0 hown hE.K hP 0 rfl rfl 3 (by decide) (hw _ bw97) (fun _ h9 => h9) rfl dX0_order_23 ?_
    refine lv_iload_n hx hb dX0_order_26 rfl (lv_at hl 2 rfl) ?_
    refine va_lald (tys := gT G) hx hb hE.K hP 4 1 rfl rfl h1 dX0_order_27 ?_
    refine W.lcmp hx hb dX0_order_28 ?_
    refine lv_if_ge (tgt := 36) hx hb dX0_order_29 (by decide) (fun c_4 => ?_) (fun c_4 => ?_)
    · refine lv_iconst (v := (1 : Int32)) hx hb dX0_order_36 qi_1 ?_
      exact re_i hx hb hr hk dX0_order_37 (ei (Eq.trans (if_neg c_1) (if_pos c_4)))
    · refine lv_iconst (v := (-1 : Int32)) hx hb dX0_order_32 qi_m1 ?_
      refine lv_goto (tgt := 37) hx hb dX0_order_33 (by decide) ?_
      exact re_i hx hb hr hk dX0_order_37 (ei (Eq.trans (if_neg c_1) (if_neg c_4)))

set_option maxRecDepth 100000 in
set_option maxHeartbeats 4000000 in
theorem c_X0_isSameLine (l : Launch) (G : GT) (a : Nat → Nat) (S : SX) (p0 : Int32) (p1 : Int32) (h0 : vp_in p0 6) (h1 : vp_in p1 6) : RO l G yX0_isSameLine cX0_isSameLine 3 (some .boolean) 1 [.ref (a 0), .int p0, .int p1] (wX G a S) (some (.int (fX0_isSameLine S p0 p1))) := by
  refine RO.ofW (own := RX0) rfl (plainFor_of_name pnN_RX0) (Nat.le_of_ble_eq_true rfl) ?_
  intro p e s m below meth c C hr hk hE hP ls hl
  have hx := C.1
  have hb := C.2.1
  have hown := C.2.2.2.1
  have hw := C.2.2.2.2
  have hl : lv_has ls 3 [(0, .ref (a 0)), (1, .int p0), (2, .int p1)] := hl
  refine lv_aload_n hx hb dX0_isSameLine_0 rfl (lv_at hl 0 rfl) ?_
  refine va_get (D := gD G) (cl := vwCl) (tys := gT G) (ci := 2) (v := .ref (a 4)) (C := RX0) (T := TX0) (N := 12) hx hb hw inB_X0 hown hE.K hP 0 rfl rfl 3 (by decide) (hw _ bw97) (fun _ h9 => h9) rfl dX0_isSameLine_1 ?_
  refine lv_iload_n hx hb dX0_isSameLine_4 rfl (lv_at hl 1 rfl) ?_
  refine va_lald (tys := gT G) hx hb hE.K hP 4 1 rfl rfl h0 dX0_isSameLine_5 ?_
  refine lv_aload_n hx hb dX0_isSameLine_6 rfl (lv_at hl 0 rfl) ?_
  refine va_get (D := gD G) (cl := vwCl) (tys := gT G) (ci := 2) (v := .ref (a 4)) (C := RX0) (T := TX0) (N := 12) hx hb hw inB_X0 hown hE.K hP 0 rfl rfl 3 (by decide) (hw _ bw97) (fun _ h9 => h9) rfl dX0_isSameLine_7 ?_
  refine lv_iload_n hx hb dX0_isSameLine_10 rfl (lv_at hl 2 rfl) ?_
  refine va_lald (tys := gT G) hx hb hE.K hP 4 1 rfl rfl h1 dX0_isSameLine_11 ?_
  refine W.lcmp hx hb dX0_isSameLine_12 ?_
  refine lv_if_ne (tgt := 36) hx hb dX0_isSameLine_13 (by decide) (fun c_1 => ?_) (fun c_1 => ?_)
  · refine lv_iconst (v := (0 : Int32)) hx hb dX0_isSameLine_36 qi_0 ?_
    exact re_z (ty := .boolean) hx hb hr hk (by decide) dX0_isSameLine_37 (ei (if_neg c_1))
  · refine lv_aload_n hx hb dX0_isSameLine_16 rfl (lv_at hl 0 rfl) ?_
    refine va_get (D := gD G) (cl := vwCl) (tys := gT G) (ci := 2) (v := .ref (a 5)) (C := RX0) (T := TX0) (N := 12) hx hb hw inB_X0 hown hE.K hP 0 rfl rfl 4 (by decide) (hw _ bw98) (fun _ h9 => h9) rfl dX0_isSameLine_17 ?_
    refine lv_iload_n hx hb dX0_isSameLine_20 rfl (lv_at hl 1 rfl) ?_
    refine va_lald (tys := gT G) hx hb hE.K hP 5 1 rfl rfl h0 dX0_isSameLine_21 ?_
    refine lv_aload_n hx hb dX0_isSameLine_22 rfl (lv_at hl 0 rfl) ?_
    refine va_get (D := gD G) (cl := vwCl) (tys := gT G) (ci := 2) (v := .ref (a 5)) (C := RX0) (T := TX0) (N := 12) hx hb hw inB_X0 hown hE.K hP 0 rfl rfl 4 (by decide) (hw _ bw98) (fun _ h9 => h9) rfl dX0_isSameLine_23 ?_
    refine lv_iload_n hx hb dX0_isSameLine_26 rfl (lv_at hl 2 rfl) ?_
    refine va_lald (tys := gT G) hx hb hE.K hP 5 1 rfl rfl h1 dX0_isSameLine_27 ?_
    refine W.lcmp hx hb dX0_isSameLine_28 ?_
    refine lv_if_ne (tgt := 36) hx hb dX0_isSameLine_29 (by decide) (fun c_2 => ?_) (fun c_2 => ?_)
    · refine lv_iconst (v := (0 : Int32)) hx hb dX0_isSameLine_36 qi_0 ?_
      exact re_z (ty := .boolean) hx hb hr hk (by decide) dX0_isSameLine_37 (ei (Eq.trans (if_pos c_1) (if_neg c_2)))
    · refine lv_iconst (v := (1 : Int32)) hx hb dX0_isSameLine_32 qi_1 ?_
      refine lv_goto (tgt := 37) hx hb dX0_isSameLine_33 (by decide) ?_
      exact re_z (ty := .boolean) hx hb hr hk (by decide) dX0_isSameLine_37 (ei (Eq.trans (if_pos c_1) (if_pos c_2)))

set_option maxRecDepth 100000 in
set_option maxHeartbeats 4000000 in
theorem c_X0_isGapRefused (l : Launch) (G : GT) (a : Nat → Nat) (S : SX) (p0 : Int32) (p1 : Int32) (p2 : Int32) (h0 : vp_in p0 6) (h1 : vp_in p1 6) : RO l G yX0_isGapRefused cX0_isGapRefused 4 (some .boolean) 2 [.ref (a 0), .int p0, .int p1, .int p2] (wX G a S) (some (.int (fX0_isGapRefused S p0 p1 p2))) := by
  refine RO.ofW (own := RX0) rfl (plainFor_of_name pnN_RX0) (Nat.le_of_ble_eq_true rfl) ?_
  intro p e s m below meth c C hr hk hE hP ls hl
  have hx := C.1
  have hb := C.2.1
  have hown := C.2.2.2.1
  have hw := C.2.2.2.2
  have hl : lv_has ls 4 [(0, .ref (a 0)), (1, .int p0), (2, .int p1), (3, .int p2)] := hl
  refine lv_iload_n hx hb dX0_isGapRefused_0 rfl (lv_at hl 3 rfl) ?_
  refine lv_if_ne (tgt := 33) hx hb dX0_isGapRefused_1 (by decide) (fun c_1 => ?_) (fun c_1 => ?_)
  · refine lv_iload_n hx hb dX0_isGapRefused_33 rfl (lv_at hl 3 rfl) ?_
    refine lv_bipush (v := (9 : Int32)) hx hb dX0_isGapRefused_34 qb_9 ?_
    refine lv_icmp_lt (tgt := 65) hx hb dX0_isGapRefused_36 (by decide) (fun c_2 => ?_) (fun c_2 => ?_)
    · refine lv_iconst (v := (0 : Int32)) hx hb dX0_isGapRefused_65 qi_0 ?_
      exact re_z (ty := .boolean) hx hb hr hk (by decide) dX0_isGapRefused_66 (ei (Eq.trans (if_neg c_1) (if_pos c_2)))
    · refine lv_aload_n hx hb dX0_isGapRefused_39 rfl (lv_at hl 0 rfl) ?_
      refine va_get (D := gD G) (cl := vwCl) (tys := gT G) (ci := 2) (v := .ref (a 3)) (C := RX0) (T := TX0) (N := 12) hx hb hw inB_X0 hown hE.K hP 0 rfl rfl 2 (by decide) (hw _ bw96) (fun _ h9 => h9) rfl dX0_isGapRefused_40 ?_
      refine lv_iload_n hx hb dX0_isGapRefused_43 rfl (lv_at hl 1 rfl) ?_
      refine va_iald (tys := gT G) hx hb hE.K hP 3 0 rfl rfl h0 dX0_isGapRefused_44 ?_
      refine lv_bipush (v := (28 : Int32)) hx hb dX0_isGapRefused_45 qb_28 ?_
      refine lv_icmp_gt (tgt := 61) hx hb dX0_isGapRefused_47 (by decide) (fun c_3 => ?_) (fun c_3 => ?_)
      · refine lv_iconst (v := (1 : Int32)) hx hb dX0_isGapRefused_61 qi_1 ?_
        refine lv_goto (tgt := 66) hx hb dX0_isGapRefused_62 (by decide) ?_
        exact re_z (ty := .boolean) hx hb hr hk (by decide) dX0_isGapRefused_66 (ei (Eq.trans (if_neg c_1) (Eq.trans (if_neg c_2) (if_pos c_3))))
      · refine lv_aload_n hx hb dX0_isGapRefused_50 rfl (lv_at hl 0 rfl) ?_
        refine va_get (D := gD G) (cl := vwCl) (tys := gT G) (ci := 2) (v := .ref (a 3)) (C := RX0) (T := TX0) (N := 12) hx hb hw inB_X0 hown hE.K hP 0 rfl rfl 2 (by decide) (hw _ bw96) (fun _ h9 => h9) rfl dX0_isGapRefused_51 ?_
        refine lv_iload_n hx hb dX0_isGapRefused_54 rfl (lv_at hl 2 rfl) ?_
        refine va_iald (tys := gT G) hx hb hE.K hP 3 0 rfl rfl h1 dX0_isGapRefused_55 ?_
        refine lv_bipush (v := (28 : Int32)) hx hb dX0_isGapRefused_56 qb_28 ?_
        refine lv_icmp_le (tgt := 65) hx hb dX0_isGapRefused_58 (by decide) (fun c_4 => ?_) (fun c_4 => ?_)
        · refine lv_iconst (v := (0 : Int32)) hx hb dX0_isGapRefused_65 qi_0 ?_
          exact re_z (ty := .boolean) hx hb hr hk (by decide) dX0_isGapRefused_66 (ei (Eq.trans (if_neg c_1) (Eq.trans (if_neg c_2) (Eq.trans (if_neg c_3) (if_pos c_4)))))
        · refine lv_iconst (v := (1 : Int32)) hx hb dX0_isGapRefused_61 qi_1 ?_
          refine lv_goto (tgt := 66) hx hb dX0_isGapRefused_62 (by decide) ?_
          exact re_z (ty := .boolean) hx hb hr hk (by decide) dX0_isGapRefused_66 (ei (Eq.trans (if_neg c_1) (Eq.trans (if_neg c_2) (Eq.trans (if_neg c_3) (if_neg c_4)))))
  · refine lv_aload_n hx hb dX0_isGapRefused_4 rfl (lv_at hl 0 rfl) ?_
    refine va_get (D := gD G) (cl := vwCl) (tys := gT G) (ci := 2) (v := .ref (a 4)) (C := RX0) (T := TX0) (N := 12) hx hb hw inB_X0 hown hE.K hP 0 rfl rfl 3 (by decide) (hw _ bw97) (fun _ h9 => h9) rfl dX0_isGapRefused_5 ?_
    refine lv_iload_n hx hb dX0_isGapRefused_8 rfl (lv_at hl 2 rfl) ?_
    refine va_lald (tys := gT G) hx hb hE.K hP 4 1 rfl rfl h1 dX0_isGapRefused_9 ?_
    refine lv_aload_n hx hb dX0_isGapRefused_10 rfl (lv_at hl 0 rfl) ?_
    refine va_get (D := gD G) (cl := vwCl) (tys := gT G) (ci := 2) (v := .ref (a 4)) (C := RX0) (T := TX0) (N := 12) hx hb hw inB_X0 hown hE.K hP 0 rfl rfl 3 (by decide) (hw _ bw97) (fun _ h9 => h9) rfl dX0_isGapRefused_11 ?_
    refine lv_iload_n hx hb dX0_isGapRefused_14 rfl (lv_at hl 1 rfl) ?_
    refine va_lald (tys := gT G) hx hb hE.K hP 4 1 rfl rfl h0 dX0_isGapRefused_15 ?_
    refine lv_lsub hx hb dX0_isGapRefused_16 ?_
    refine rcSl (as := [.long ((xD S p1.toNatClampNeg) - (xD S p0.toNatClampNeg))]) (rest := []) C (c_J9_abs_067f4 l G ((xD S p1.toNatClampNeg) - (xD S p0.toNatClampNeg))) F_J9_abs_067f4 rfl bw809 bw810 hE vpn hl.1 dX0_isGapRefused_17 ⟨Nat.le_of_ble_eq_true rfl, Nat.le_of_ble_eq_true rfl⟩ rfl (Nat.le_of_ble_eq_true rfl) ⟨Nat.zero_le _, Nat.zero_le _⟩ ?_
    refine lv_ldc2 (v := (100000 : Int64)) hx hb hown (hw _ bw1133) dX0_isGapRefused_20 ?_
    refine W.lcmp hx hb dX0_isGapRefused_23 ?_
    refine lv_if_le (tgt := 31) hx hb dX0_isGapRefused_24 (by decide) (fun c_5 => ?_) (fun c_5 => ?_)
    · refine lv_iconst (v := (0 : Int32)) hx hb dX0_isGapRefused_31 qi_0 ?_
      exact re_z (ty := .boolean) hx hb hr hk (by decide) dX0_isGapRefused_32 (ei (Eq.trans (if_pos c_1) (if_pos c_5)))
    · refine lv_iconst (v := (1 : Int32)) hx hb dX0_isGapRefused_27 qi_1 ?_
      refine lv_goto (tgt := 32) hx hb dX0_isGapRefused_28 (by decide) ?_
      exact re_z (ty := .boolean) hx hb hr hk (by decide) dX0_isGapRefused_32 (ei (Eq.trans (if_pos c_1) (if_neg c_5)))

set_option maxRecDepth 100000 in
set_option maxHeartbeats 4000000 in
theorem c_X0_gapInUnits (l : Launch) (G : GT) (a : Nat → Nat) (S : SX) (p0 : Int32) (p1 : Int32) (p2 : Int32) (h0 : vp_in p0 6) (h1 : vp_in p1 6) : RO l G yX0_gapInUnits cX0_gapInUnits 10 (some .long) 2 [.ref (a 0), .int p0, .int p1, .int p2] (wX G a S) (some (.long (fX0_gapInUnits S p0 p1 p2))) := by
  refine RO.ofW (own := RX0) rfl (plainFor_of_name pnN_RX0) (Nat.le_of_ble_eq_true rfl) ?_
  intro p e s m below meth c C hr hk hE hP ls hl
  have hx := C.1
  have hb := C.2.1
  have hown := C.2.2.2.1
  have hw := C.2.2.2.2
  have hl : lv_has ls 10 [(0, .ref (a 0)), (1, .int p0), (2, .int p1), (3, .int p2)] := hl
  refine lv_aload_n hx hb dX0_gapInUnits_0 rfl (lv_at hl 0 rfl) ?_
  refine va_get (D := gD G) (cl := vwCl) (tys := gT G) (ci := 2) (v := .ref (a 4)) (C := RX0) (T := TX0) (N := 12) hx hb hw inB_X0 hown hE.K hP 0 rfl rfl 3 (by decide) (hw _ bw97) (fun _ h9 => h9) rfl dX0_gapInUnits_1 ?_
  refine lv_iload_n hx hb dX0_gapInUnits_4 rfl (lv_at hl 2 rfl) ?_
  refine va_lald (tys := gT G) hx hb hE.K hP 4 1 rfl rfl h1 dX0_gapInUnits_5 ?_
  refine lv_aload_n hx hb dX0_gapInUnits_6 rfl (lv_at hl 0 rfl) ?_
  refine va_get (D := gD G) (cl := vwCl) (tys := gT G) (ci := 2) (v := .ref (a 4)) (C := RX0) (T := TX0) (N := 12) hx hb hw inB_X0 hown hE.K hP 0 rfl rfl 3 (by decide) (hw _ bw97) (fun _ h9 => h9) rfl dX0_gapInUnits_7 ?_
  refine lv_iload_n hx hb dX0_gapInUnits_10 rfl (lv_at hl 1 rfl) ?_
  refine va_lald (tys := gT G) hx hb hE.K hP 4 1 rfl rfl h0 dX0_gapInUnits_11 ?_
  refine lv_lsub hx hb dX0_gapInUnits_12 ?_
  refine lv_lstore (lv' := [(4, .long ((xD S p1.toNatClampNeg) - (xD S p0.toNatClampNeg))), (0, .ref (a 0)), (1, .int p0), (2, .int p1), (3, .int p2)]) hx hb dX0_gapInUnits_13 hl (Nat.le_of_ble_eq_true rfl) rfl (fun ls hl => ?_)
  refine lv_aload_n hx hb dX0_gapInUnits_15 rfl (lv_at hl 1 rfl) ?_
  refine va_get (D := gD G) (cl := vwCl) (tys := gT G) (ci := 2) (v := .ref (a 5)) (C := RX0) (T := TX0) (N := 12) hx hb hw inB_X0 hown hE.K hP 0 rfl rfl 4 (by decide) (hw _ bw98) (fun _ h9 => h9) rfl dX0_gapInUnits_16 ?_
  refine lv_iload_n hx hb dX0_gapInUnits_19 rfl (lv_at hl 3 rfl) ?_
  refine va_lald (tys := gT G) hx hb hE.K hP 5 1 rfl rfl h1 dX0_gapInUnits_20 ?_
  refine lv_aload_n hx hb dX0_gapInUnits_21 rfl (lv_at hl 1 rfl) ?_
  refine va_get (D := gD G) (cl := vwCl) (tys := gT G) (ci := 2) (v := .ref (a 5)) (C := RX0) (T := TX0) (N := 12) hx hb hw inB_X0 hown hE.K hP 0 rfl rfl 4 (by decide) (hw _ bw98) (fun _ h9 => h9) rfl dX0_gapInUnits_22 ?_
  refine lv_iload_n hx hb dX0_gapInUnits_25 rfl (lv_at hl 2 rfl) ?_
  refine va_lald (tys := gT G) hx hb hE.K hP 5 1 rfl rfl h0 dX0_gapInUnits_26 ?_
  refine lv_lsub hx hb dX0_gapInUnits_27 ?_
  refine lv_lstore (lv' := [(6, .long ((xN S p1.toNatClampNeg) - (xN S p0.toNatClampNeg))), (4, .long ((xD S p1.toNatClampNeg) - (xD S p0.toNatClampNeg))), (0, .ref (a 0)), (1, .int p0), (2, .int p1), (3, .int p2)]) hx hb dX0_gapInUnits_28 hl (Nat.le_of_ble_eq_true rfl) rfl (fun ls hl => ?_)
  refine lv_lload hx hb dX0_gapInUnits_30 (lv_at hl 1 rfl) ?_
  refine lv_lconst (v := (0 : Int64)) hx hb dX0_gapInUnits_32 ql_0 ?_
  refine W.lcmp hx hb dX0_gapInUnits_33 ?_
  refine lv_if_le (tgt := 61) hx hb dX0_gapInUnits_34 (by decide) (fun c_1 => ?_) (fun c_1 => ?_)
  · refine lv_lload hx hb dX0_gapInUnits_61 (lv_at hl 1 rfl) ?_
    refine lv_lconst (v := (0 : Int64)) hx hb dX0_gapInUnits_63 ql_0 ?_
    refine W.lcmp hx hb dX0_gapInUnits_64 ?_
    refine lv_if_ge (tgt := 89) hx hb dX0_gapInUnits_65 (by decide) (fun c_2 => ?_) (fun c_2 => ?_)
    · refine lv_iload_n hx hb dX0_gapInUnits_89 rfl (lv_at hl 5 rfl) ?_
      refine lv_bipush (v := (8 : Int32)) hx hb dX0_gapInUnits_90 qb_8 ?_
      refine lv_icmp_ne (tgt := 102) hx hb dX0_gapInUnits_92 (by decide) (fun c_3 => ?_) (fun c_3 => ?_)
      · refine lv_iload_n hx hb dX0_gapInUnits_102 rfl (lv_at hl 5 rfl) ?_
        refine rcSl (as := [.int p2]) (rest := []) C (c_X0_nanosOfUnit l G p2) F_X0_nanosOfUnit rfl bw223 bw224 hE vpn hl.1 dX0_gapInUnits_103 ⟨Nat.le_of_ble_eq_true rfl, Nat.le_of_ble_eq_true rfl⟩ rfl (Nat.le_of_ble_eq_true rfl) ⟨Nat.zero_le _, Nat.zero_le _⟩ ?_
        refine lv_lstore (lv' := [(8, .long (fX0_nanosOfUnit p2)), (6, .long ((xN S p1.toNatClampNeg) - (xN S p0.toNatClampNeg))), (4, .long ((xD S p1.toNatClampNeg) - (xD S p0.toNatClampNeg))), (0, .ref (a 0)), (1, .int p0), (2, .int p1), (3, .int p2)]) hx hb dX0_gapInUnits_106 hl (Nat.le_of_ble_eq_true rfl) rfl (fun ls hl => ?_)
        refine lv_lload hx hb dX0_gapInUnits_108 (lv_at hl 2 rfl) ?_
        refine lv_ldc2 (v := (86400000000000 : Int64)) hx hb hown (hw _ bw190) dX0_gapInUnits_110 ?_
        refine lv_lload hx hb dX0_gapInUnits_113 (lv_at hl 0 rfl) ?_
        refine rcSl (as := [.long (86400000000000 : Int64), .long (fX0_nanosOfUnit p2)]) (rest := [.long ((xD S p1.toNatClampNeg) - (xD S p0.toNatClampNeg))]) C (c_X0_quotient l G (86400000000000 : Int64) (fX0_nanosOfUnit p2)) F_X0_quotient rfl bw229 bw230 hE vpn hl.1 dX0_gapInUnits_115 ⟨Nat.le_of_ble_eq_true rfl, Nat.le_of_ble_eq_true rfl⟩ rfl (Nat.le_of_ble_eq_true rfl) ⟨Nat.zero_le _, Nat.zero_le _⟩ ?_
        refine lv_lmul hx hb dX0_gapInUnits_118 ?_
        refine lv_lload hx hb dX0_gapInUnits_119 (lv_at hl 1 rfl) ?_
        refine lv_lload hx hb dX0_gapInUnits_121 (lv_at hl 0 rfl) ?_
        refine rcSl (as := [.long ((xN S p1.toNatClampNeg) - (xN S p0.toNatClampNeg)), .long (fX0_nanosOfUnit p2)]) (rest := [.long (((xD S p1.toNatClampNeg) - (xD S p0.toNatClampNeg)) * (fX0_quotient (86400000000000 : Int64) (fX0_nanosOfUnit p2)))]) C (c_X0_quotient l G ((xN S p1.toNatClampNeg) - (xN S p0.toNatClampNeg)) (fX0_nanosOfUnit p2)) F_X0_quotient rfl bw229 bw230 hE vpn hl.1 dX0_gapInUnits_123 ⟨Nat.le_of_ble_eq_true rfl, Nat.le_of_ble_eq_true rfl⟩ rfl (Nat.le_of_ble_eq_true rfl) ⟨Nat.zero_le _, Nat.zero_le _⟩ ?_
        refine lv_ladd hx hb dX0_gapInUnits_126 ?_
        exact re_l hx hb hr hk dX0_gapInUnits_127 (el (Eq.trans (if_pos c_1) (Eq.trans (if_pos c_2) (if_neg c_3))))
      · refine lv_lload hx hb dX0_gapInUnits_95 (lv_at hl 1 rfl) ?_
        refine lv_ldc2 (v := (7 : Int64)) hx hb hown (hw _ bw248) dX0_gapInUnits_97 ?_
        refine lv_ldiv hx hb dX0_gapInUnits_100 (by decide) ?_
        exact re_l hx hb hr hk dX0_gapInUnits_101 (el (Eq.trans (if_pos c_1) (Eq.trans (if_pos c_2) (if_pos c_3))))
    · refine lv_lload hx hb dX0_gapInUnits_68 (lv_at hl 0 rfl) ?_
      refine lv_lconst (v := (0 : Int64)) hx hb dX0_gapInUnits_70 ql_0 ?_
      refine W.lcmp hx hb dX0_gapInUnits_71 ?_
      refine lv_if_le (tgt := 89) hx hb dX0_gapInUnits_72 (by decide) (fun c_4 => ?_) (fun c_4 => ?_)
      · refine lv_iload_n hx hb dX0_gapInUnits_89 rfl (lv_at hl 5 rfl) ?_
        refine lv_bipush (v := (8 : Int32)) hx hb dX0_gapInUnits_90 qb_8 ?_
        refine lv_icmp_ne (tgt := 102) hx hb dX0_gapInUnits_92 (by decide) (fun c_5 => ?_) (fun c_5 => ?_)
        · refine lv_iload_n hx hb dX0_gapInUnits_102 rfl (lv_at hl 5 rfl) ?_
          refine rcSl (as := [.int p2]) (rest := []) C (c_X0_nanosOfUnit l G p2) F_X0_nanosOfUnit rfl bw223 bw224 hE vpn hl.1 dX0_gapInUnits_103 ⟨Nat.le_of_ble_eq_true rfl, Nat.le_of_ble_eq_true rfl⟩ rfl (Nat.le_of_ble_eq_true rfl) ⟨Nat.zero_le _, Nat.zero_le _⟩ ?_
          refine lv_lstore (lv' := [(8, .long (fX0_nanosOfUnit p2)), (6, .long ((xN S p1.toNatClampNeg) - (xN S p0.toNatClampNeg))), (4, .long ((xD S p1.toNatClampNeg) - (xD S p0.toNatClampNeg))), (0, .ref (a 0)), (1, .int p0), (2, .int p1), (3, .int p2)]) hx hb dX0_gapInUnits_106 hl (Nat.le_of_ble_eq_true rfl) rfl (fun ls hl => ?_)
          refine lv_lload hx hb dX0_gapInUnits_108 (lv_at hl 2 rfl) ?_
          refine lv_ldc2 (v := (86400000000000 : Int64)) hx hb hown (hw _ bw190) dX0_gapInUnits_110 ?_
          refine lv_lload hx hb dX0_gapInUnits_113 (lv_at hl 0 rfl) ?_
          refine rcSl (as := [.long (86400000000000 : Int64), .long (fX0_nanosOfUnit p2)]) (rest := [.long ((xD S p1.toNatClampNeg) - (xD S p0.toNatClampNeg))]) C (c_X0_quotient l G (86400000000000 : Int64) (fX0_nanosOfUnit p2)) F_X0_quotient rfl bw229 bw230 hE vpn hl.1 dX0_gapInUnits_115 ⟨Nat.le_of_ble_eq_true rfl, Nat.le_of_ble_eq_true rfl⟩ rfl (Nat.le_of_ble_eq_true rfl) ⟨Nat.zero_le _, Nat.zero_le _⟩ ?_
          refine lv_lmul hx hb dX0_gapInUnits_118 ?_
          refine lv_lload hx hb dX0_gapInUnits_119 (lv_at hl 1 rfl) ?_
          refine lv_lload hx hb dX0_gapInUnits_121 (lv_at hl 0 rfl) ?_
          refine rcSl (as := [.long ((xN S p1.toNatClampNeg) - (xN S p0.toNatClampNeg)), .long (fX0_nanosOfUnit p2)]) (rest := [.long (((xD S p1.toNatClampNeg) - (xD S p0.toNatClampNeg)) * (fX0_quotient (86400000000000 : Int64) (fX0_nanosOfUnit p2)))]) C (c_X0_quotient l G ((xN S p1.toNatClampNeg) - (xN S p0.toNatClampNeg)) (fX0_nanosOfUnit p2)) F_X0_quotient rfl bw229 bw230 hE vpn hl.1 dX0_gapInUnits_123 ⟨Nat.le_of_ble_eq_true rfl, Nat.le_of_ble_eq_true rfl⟩ rfl (Nat.le_of_ble_eq_true rfl) ⟨Nat.zero_le _, Nat.zero_le _⟩ ?_
          refine lv_ladd hx hb dX0_gapInUnits_126 ?_
          exact re_l hx hb hr hk dX0_gapInUnits_127 (el (Eq.trans (if_pos c_1) (Eq.trans (if_neg c_2) (Eq.trans (if_pos c_4) (if_neg c_5)))))
        · refine lv_lload hx hb dX0_gapInUnits_95 (lv_at hl 1 rfl) ?_
          refine lv_ldc2 (v := (7 : Int64)) hx hb hown (hw _ bw248) dX0_gapInUnits_97 ?_
          refine lv_ldiv hx hb dX0_gapInUnits_100 (by decide) ?_
          exact re_l hx hb hr hk dX0_gapInUnits_101 (el (Eq.trans (if_pos c_1) (Eq.trans (if_neg c_2) (Eq.trans (if_pos c_4) (if_pos c_5)))))
      · refine lv_lload hx hb dX0_gapInUnits_75 (lv_at hl 1 rfl) ?_
        refine lv_lconst (v := (1 : Int64)) hx hb dX0_gapInUnits_77 ql_1 ?_
        refine lv_ladd hx hb dX0_gapInUnits_78 ?_
        refine lv_lstore (lv' := [(4, .long (((xD S p1.toNatClampNeg) - (xD S p0.toNatClampNeg)) + (1 : Int64))), (6, .long ((xN S p1.toNatClampNeg) - (xN S p0.toNatClampNeg))), (0, .ref (a 0)), (1, .int p0), (2, .int p1), (3, .int p2)]) hx hb dX0_gapInUnits_79 hl (Nat.le_of_ble_eq_true rfl) rfl (fun ls hl => ?_)
        refine lv_lload hx hb dX0_gapInUnits_81 (lv_at hl 1 rfl) ?_
        refine lv_ldc2 (v := (86400000000000 : Int64)) hx hb hown (hw _ bw190) dX0_gapInUnits_83 ?_
        refine lv_lsub hx hb dX0_gapInUnits_86 ?_
        refine lv_lstore (lv' := [(6, .long (((xN S p1.toNatClampNeg) - (xN S p0.toNatClampNeg)) - (86400000000000 : Int64))), (4, .long (((xD S p1.toNatClampNeg) - (xD S p0.toNatClampNeg)) + (1 : Int64))), (0, .ref (a 0)), (1, .int p0), (2, .int p1), (3, .int p2)]) hx hb dX0_gapInUnits_87 hl (Nat.le_of_ble_eq_true rfl) rfl (fun ls hl => ?_)
        refine lv_iload_n hx hb dX0_gapInUnits_89 rfl (lv_at hl 5 rfl) ?_
        refine lv_bipush (v := (8 : Int32)) hx hb dX0_gapInUnits_90 qb_8 ?_
        refine lv_icmp_ne (tgt := 102) hx hb dX0_gapInUnits_92 (by decide) (fun c_6 => ?_) (fun c_6 => ?_)
        · refine lv_iload_n hx hb dX0_gapInUnits_102 rfl (lv_at hl 5 rfl) ?_
          refine rcSl (as := [.int p2]) (rest := []) C (c_X0_nanosOfUnit l G p2) F_X0_nanosOfUnit rfl bw223 bw224 hE vpn hl.1 dX0_gapInUnits_103 ⟨Nat.le_of_ble_eq_true rfl, Nat.le_of_ble_eq_true rfl⟩ rfl (Nat.le_of_ble_eq_true rfl) ⟨Nat.zero_le _, Nat.zero_le _⟩ ?_
          refine lv_lstore (lv' := [(8, .long (fX0_nanosOfUnit p2)), (6, .long (((xN S p1.toNatClampNeg) - (xN S p0.toNatClampNeg)) - (86400000000000 : Int64))), (4, .long (((xD S p1.toNatClampNeg) - (xD S p0.toNatClampNeg)) + (1 : Int64))), (0, .ref (a 0)), (1, .int p0), (2, .int p1), (3, .int p2)]) hx hb dX0_gapInUnits_106 hl (Nat.le_of_ble_eq_true rfl) rfl (fun ls hl => ?_)
          refine lv_lload hx hb dX0_gapInUnits_108 (lv_at hl 2 rfl) ?_
          refine lv_ldc2 (v := (86400000000000 : Int64)) hx hb hown (hw _ bw190) dX0_gapInUnits_110 ?_
          refine lv_lload hx hb dX0_gapInUnits_113 (lv_at hl 0 rfl) ?_
          refine rcSl (as := [.long (86400000000000 : Int64), .long (fX0_nanosOfUnit p2)]) (rest := [.long (((xD S p1.toNatClampNeg) - (xD S p0.toNatClampNeg)) + (1 : Int64))]) C (c_X0_quotient l G (86400000000000 : Int64) (fX0_nanosOfUnit p2)) F_X0_quotient rfl bw229 bw230 hE vpn hl.1 dX0_gapInUnits_115 ⟨Nat.le_of_ble_eq_true rfl, Nat.le_of_ble_eq_true rfl⟩ rfl (Nat.le_of_ble_eq_true rfl) ⟨Nat.zero_le _, Nat.zero_le _⟩ ?_
          refine lv_lmul hx hb dX0_gapInUnits_118 ?_
          refine lv_lload hx hb dX0_gapInUnits_119 (lv_at hl 1 rfl) ?_
          refine lv_lload hx hb dX0_gapInUnits_121 (lv_at hl 0 rfl) ?_
          refine rcSl (as := [.long (((xN S p1.toNatClampNeg) - (xN S p0.toNatClampNeg)) - (86400000000000 : Int64)), .long (fX0_nanosOfUnit p2)]) (rest := [.long ((((xD S p1.toNatClampNeg) - (xD S p0.toNatClampNeg)) + (1 : Int64)) * (fX0_quotient (86400000000000 : Int64) (fX0_nanosOfUnit p2)))]) C (c_X0_quotient l G (((xN S p1.toNatClampNeg) - (xN S p0.toNatClampNeg)) - (86400000000000 : Int64)) (fX0_nanosOfUnit p2)) F_X0_quotient rfl bw229 bw230 hE vpn hl.1 dX0_gapInUnits_123 ⟨Nat.le_of_ble_eq_true rfl, Nat.le_of_ble_eq_true rfl⟩ rfl (Nat.le_of_ble_eq_true rfl) ⟨Nat.zero_le _, Nat.zero_le _⟩ ?_
          refine lv_ladd hx hb dX0_gapInUnits_126 ?_
          exact re_l hx hb hr hk dX0_gapInUnits_127 (el (Eq.trans (if_pos c_1) (Eq.trans (if_neg c_2) (Eq.trans (if_neg c_4) (if_neg c_6)))))
        · refine lv_lload hx hb dX0_gapInUnits_95 (lv_at hl 1 rfl) ?_
          refine lv_ldc2 (v := (7 : Int64)) hx hb hown (hw _ bw248) dX0_gapInUnits_97 ?_
          refine lv_ldiv hx hb dX0_gapInUnits_100 (by decide) ?_
          exact re_l hx hb hr hk dX0_gapInUnits_101 (el (Eq.trans (if_pos c_1) (Eq.trans (if_neg c_2) (Eq.trans (if_neg c_4) (if_pos c_6)))))
  · refine lv_lload hx hb dX0_gapInUnits_37 (lv_at hl 0 rfl) ?_
    refine lv_lconst (v := (0 : Int64)) hx hb dX0_gapInUnits_39 ql_0 ?_
    refine W.lcmp hx hb dX0_gapInUnits_40 ?_
    refine lv_if_ge (tgt := 61) hx hb dX0_gapInUnits_41 (by decide) (fun c_7 => ?_) (fun c_7 => ?_)
    · refine lv_lload hx hb dX0_gapInUnits_61 (lv_at hl 1 rfl) ?_
      refine lv_lconst (v := (0 : Int64)) hx hb dX0_gapInUnits_63 ql_0 ?_
      refine W.lcmp hx hb dX0_gapInUnits_64 ?_
      refine lv_if_ge (tgt := 89) hx hb dX0_gapInUnits_65 (by decide) (fun c_8 => ?_) (fun c_8 => ?_)
      · refine lv_iload_n hx hb dX0_gapInUnits_89 rfl (lv_at hl 5 rfl) ?_
        refine lv_bipush (v := (8 : Int32)) hx hb dX0_gapInUnits_90 qb_8 ?_
        refine lv_icmp_ne (tgt := 102) hx hb dX0_gapInUnits_92 (by decide) (fun c_9 => ?_) (fun c_9 => ?_)
        · refine lv_iload_n hx hb dX0_gapInUnits_102 rfl (lv_at hl 5 rfl) ?_
          refine rcSl (as := [.int p2]) (rest := []) C (c_X0_nanosOfUnit l G p2) F_X0_nanosOfUnit rfl bw223 bw224 hE vpn hl.1 dX0_gapInUnits_103 ⟨Nat.le_of_ble_eq_true rfl, Nat.le_of_ble_eq_true rfl⟩ rfl (Nat.le_of_ble_eq_true rfl) ⟨Nat.zero_le _, Nat.zero_le _⟩ ?_
          refine lv_lstore (lv' := [(8, .long (fX0_nanosOfUnit p2)), (6, .long ((xN S p1.toNatClampNeg) - (xN S p0.toNatClampNeg))), (4, .long ((xD S p1.toNatClampNeg) - (xD S p0.toNatClampNeg))), (0, .ref (a 0)), (1, .int p0), (2, .int p1), (3, .int p2)]) hx hb dX0_gapInUnits_106 hl (Nat.le_of_ble_eq_true rfl) rfl (fun ls hl => ?_)
          refine lv_lload hx hb dX0_gapInUnits_108 (lv_at hl 2 rfl) ?_
          refine lv_ldc2 (v := (86400000000000 : Int64)) hx hb hown (hw _ bw190) dX0_gapInUnits_110 ?_
          refine lv_lload hx hb dX0_gapInUnits_113 (lv_at hl 0 rfl) ?_
          refine rcSl (as := [.long (86400000000000 : Int64), .long (fX0_nanosOfUnit p2)]) (rest := [.long ((xD S p1.toNatClampNeg) - (xD S p0.toNatClampNeg))]) C (c_X0_quotient l G (86400000000000 : Int64) (fX0_nanosOfUnit p2)) F_X0_quotient rfl bw229 bw230 hE vpn hl.1 dX0_gapInUnits_115 ⟨Nat.le_of_ble_eq_true rfl, Nat.le_of_ble_eq_true rfl⟩ rfl (Nat.le_of_ble_eq_true rfl) ⟨Nat.zero_le _, Nat.zero_le _⟩ ?_
          refine lv_lmul hx hb dX0_gapInUnits_118 ?_
          refine lv_lload hx hb dX0_gapInUnits_119 (lv_at hl 1 rfl) ?_
          refine lv_lload hx hb dX0_gapInUnits_121 (lv_at hl 0 rfl) ?_
          refine rcSl (as := [.long ((xN S p1.toNatClampNeg) - (xN S p0.toNatClampNeg)), .long (fX0_nanosOfUnit p2)]) (rest := [.long (((xD S p1.toNatClampNeg) - (xD S p0.toNatClampNeg)) * (fX0_quotient (86400000000000 : Int64) (fX0_nanosOfUnit p2)))]) C (c_X0_quotient l G ((xN S p1.toNatClampNeg) - (xN S p0.toNatClampNeg)) (fX0_nanosOfUnit p2)) F_X0_quotient rfl bw229 bw230 hE vpn hl.1 dX0_gapInUnits_123 ⟨Nat.le_of_ble_eq_true rfl, Nat.le_of_ble_eq_true rfl⟩ rfl (Nat.le_of_ble_eq_true rfl) ⟨Nat.zero_le _, Nat.zero_le _⟩ ?_
          refine lv_ladd hx hb dX0_gapInUnits_126 ?_
          exact re_l hx hb hr hk dX0_gapInUnits_127 (el (Eq.trans (if_neg c_1) (Eq.trans (if_pos c_7) (Eq.trans (if_pos c_8) (if_neg c_9)))))
        · refine lv_lload hx hb dX0_gapInUnits_95 (lv_at hl 1 rfl) ?_
          refine lv_ldc2 (v := (7 : Int64)) hx hb hown (hw _ bw248) dX0_gapInUnits_97 ?_
          refine lv_ldiv hx hb dX0_gapInUnits_100 (by decide) ?_
          exact re_l hx hb hr hk dX0_gapInUnits_101 (el (Eq.trans (if_neg c_1) (Eq.trans (if_pos c_7) (Eq.trans (if_pos c_8) (if_pos c_9)))))
      · refine lv_lload hx hb dX0_gapInUnits_68 (lv_at hl 0 rfl) ?_
        refine lv_lconst (v := (0 : Int64)) hx hb dX0_gapInUnits_70 ql_0 ?_
        refine W.lcmp hx hb dX0_gapInUnits_71 ?_
        refine lv_if_le (tgt := 89) hx hb dX0_gapInUnits_72 (by decide) (fun c_10 => ?_) (fun c_10 => ?_)
        · refine lv_iload_n hx hb dX0_gapInUnits_89 rfl (lv_at hl 5 rfl) ?_
          refine lv_bipush (v := (8 : Int32)) hx hb dX0_gapInUnits_90 qb_8 ?_
          refine lv_icmp_ne (tgt := 102) hx hb dX0_gapInUnits_92 (by decide) (fun c_11 => ?_) (fun c_11 => ?_)
          · refine lv_iload_n hx hb dX0_gapInUnits_102 rfl (lv_at hl 5 rfl) ?_
            refine rcSl (as := [.int p2]) (rest := []) C (c_X0_nanosOfUnit l G p2) F_X0_nanosOfUnit rfl bw223 bw224 hE vpn hl.1 dX0_gapInUnits_103 ⟨Nat.le_of_ble_eq_true rfl, Nat.le_of_ble_eq_true rfl⟩ rfl (Nat.le_of_ble_eq_true rfl) ⟨Nat.zero_le _, Nat.zero_le _⟩ ?_
            refine lv_lstore (lv' := [(8, .long (fX0_nanosOfUnit p2)), (6, .long ((xN S p1.toNatClampNeg) - (xN S p0.toNatClampNeg))), (4, .long ((xD S p1.toNatClampNeg) - (xD S p0.toNatClampNeg))), (0, .ref (a 0)), (1, .int p0), (2, .int p1), (3, .int p2)]) hx hb dX0_gapInUnits_106 hl (Nat.le_of_ble_eq_true rfl) rfl (fun ls hl => ?_)
            refine lv_lload hx hb dX0_gapInUnits_108 (lv_at hl 2 rfl) ?_
            refine lv_ldc2 (v := (86400000000000 : Int64)) hx hb hown (hw _ bw190) dX0_gapInUnits_110 ?_
            refine lv_lload hx hb dX0_gapInUnits_113 (lv_at hl 0 rfl) ?_
            refine rcSl (as := [.long (86400000000000 : Int64), .long (fX0_nanosOfUnit p2)]) (rest := [.long ((xD S p1.toNatClampNeg) - (xD S p0.toNatClampNeg))]) C (c_X0_quotient l G (86400000000000 : Int64) (fX0_nanosOfUnit p2)) F_X0_quotient rfl bw229 bw230 hE vpn hl.1 dX0_gapInUnits_115 ⟨Nat.le_of_ble_eq_true rfl, Nat.le_of_ble_eq_true rfl⟩ rfl (Nat.le_of_ble_eq_true rfl) ⟨Nat.zero_le _, Nat.zero_le _⟩ ?_
            refine lv_lmul hx hb dX0_gapInUnits_118 ?_
            refine lv_lload hx hb dX0_gapInUnits_119 (lv_at hl 1 rfl) ?_
            refine lv_lload hx hb dX0_gapInUnits_121 (lv_at hl 0 rfl) ?_
            refine rcSl (as := [.long ((xN S p1.toNatClampNeg) - (xN S p0.toNatClampNeg)), .long (fX0_nanosOfUnit p2)]) (rest := [.long (((xD S p1.toNatClampNeg) - (xD S p0.toNatClampNeg)) * (fX0_quotient (86400000000000 : Int64) (fX0_nanosOfUnit p2)))]) C (c_X0_quotient l G ((xN S p1.toNatClampNeg) - (xN S p0.toNatClampNeg)) (fX0_nanosOfUnit p2)) F_X0_quotient rfl bw229 bw230 hE vpn hl.1 dX0_gapInUnits_123 ⟨Nat.le_of_ble_eq_true rfl, Nat.le_of_ble_eq_true rfl⟩ rfl (Nat.le_of_ble_eq_true rfl) ⟨Nat.zero_le _, Nat.zero_le _⟩ ?_
            refine lv_ladd hx hb dX0_gapInUnits_126 ?_
            exact re_l hx hb hr hk dX0_gapInUnits_127 (el (Eq.trans (if_neg c_1) (Eq.trans (if_pos c_7) (Eq.trans (if_neg c_8) (Eq.trans (if_pos c_10) (if_neg c_11))))))
          · refine lv_lload hx hb dX0_gapInUnits_95 (lv_at hl 1 rfl) ?_
            refine lv_ldc2 (v := (7 : Int64)) hx hb hown (hw _ bw248) dX0_gapInUnits_97 ?_
            refine lv_ldiv hx hb dX0_gapInUnits_100 (by decide) ?_
            exact re_l hx hb hr hk dX0_gapInUnits_101 (el (Eq.trans (if_neg c_1) (Eq.trans (if_pos c_7) (Eq.trans (if_neg c_8) (Eq.trans (if_pos c_10) (if_pos c_11))))))
        · refine lv_lload hx hb dX0_gapInUnits_75 (lv_at hl 1 rfl) ?_
          refine lv_lconst (v := (1 : Int64)) hx hb dX0_gapInUnits_77 ql_1 ?_
          refine lv_ladd hx hb dX0_gapInUnits_78 ?_
          refine lv_lstore (lv' := [(4, .long (((xD S p1.toNatClampNeg) - (xD S p0.toNatClampNeg)) + (1 : Int64))), (6, .long ((xN S p1.toNatClampNeg) - (xN S p0.toNatClampNeg))), (0, .ref (a 0)), (1, .int p0), (2, .int p1), (3, .int p2)]) hx hb dX0_gapInUnits_79 hl (Nat.le_of_ble_eq_true rfl) rfl (fun ls hl => ?_)
          refine lv_lload hx hb dX0_gapInUnits_81 (lv_at hl 1 rfl) ?_
          refine lv_ldc2 (v := (86400000000000 : Int64)) hx hb hown (hw _ bw190) dX0_gapInUnits_83 ?_
          refine lv_lsub hx hb dX0_gapInUnits_86 ?_
          refine lv_lstore (lv' := [(6, .long (((xN S p1.toNatClampNeg) - (xN S p0.toNatClampNeg)) - (86400000000000 : Int64))), (4, .long (((xD S p1.toNatClampNeg) - (xD S p0.toNatClampNeg)) + (1 : Int64))), (0, .ref (a 0)), (1, .int p0), (2, .int p1), (3, .int p2)]) hx hb dX0_gapInUnits_87 hl (Nat.le_of_ble_eq_true rfl) rfl (fun ls hl => ?_)
          refine lv_iload_n hx hb dX0_gapInUnits_89 rfl (lv_at hl 5 rfl) ?_
          refine lv_bipush (v := (8 : Int32)) hx hb dX0_gapInUnits_90 qb_8 ?_
          refine lv_icmp_ne (tgt := 102) hx hb dX0_gapInUnits_92 (by decide) (fun c_12 => ?_) (fun c_12 => ?_)
          · refine lv_iload_n hx hb dX0_gapInUnits_102 rfl (lv_at hl 5 rfl) ?_
            refine rcSl (as := [.int p2]) (rest := []) C (c_X0_nanosOfUnit l G p2) F_X0_nanosOfUnit rfl bw223 bw224 hE vpn hl.1 dX0_gapInUnits_103 ⟨Nat.le_of_ble_eq_true rfl, Nat.le_of_ble_eq_true rfl⟩ rfl (Nat.le_of_ble_eq_true rfl) ⟨Nat.zero_le _, Nat.zero_le _⟩ ?_
            refine lv_lstore (lv' := [(8, .long (fX0_nanosOfUnit p2)), (6, .long (((xN S p1.toNatClampNeg) - (xN S p0.toNatClampNeg)) - (86400000000000 : Int64))), (4, .long (((xD S p1.toNatClampNeg) - (xD S p0.toNatClampNeg)) + (1 : Int64))), (0, .ref (a 0)), (1, .int p0), (2, .int p1), (3, .int p2)]) hx hb dX0_gapInUnits_106 hl (Nat.le_of_ble_eq_true rfl) rfl (fun ls hl => ?_)
            refine lv_lload hx hb dX0_gapInUnits_108 (lv_at hl 2 rfl) ?_
            refine lv_ldc2 (v := (86400000000000 : Int64)) hx hb hown (hw _ bw190) dX0_gapInUnits_110 ?_
            refine lv_lload hx hb dX0_gapInUnits_113 (lv_at hl 0 rfl) ?_
            refine rcSl (as := [.long (86400000000000 : Int64), .long (fX0_nanosOfUnit p2)]) (rest := [.long (((xD S p1.toNatClampNeg) - (xD S p0.toNatClampNeg)) + (1 : Int64))]) C (c_X0_quotient l G (86400000000000 : Int64) (fX0_nanosOfUnit p2)) F_X0_quotient rfl bw229 bw230 hE vpn hl.1 dX0_gapInUnits_115 ⟨Nat.le_of_ble_eq_true rfl, Nat.le_of_ble_eq_true rfl⟩ rfl (Nat.le_of_ble_eq_true rfl) ⟨Nat.zero_le _, Nat.zero_le _⟩ ?_
            refine lv_lmul hx hb dX0_gapInUnits_118 ?_
            refine lv_lload hx hb dX0_gapInUnits_119 (lv_at hl 1 rfl) ?_
            refine lv_lload hx hb dX0_gapInUnits_121 (lv_at hl 0 rfl) ?_
            refine rcSl (as := [.long (((xN S p1.toNatClampNeg) - (xN S p0.toNatClampNeg)) - (86400000000000 : Int64)), .long (fX0_nanosOfUnit p2)]) (rest := [.long ((((xD S p1.toNatClampNeg) - (xD S p0.toNatClampNeg)) + (1 : Int64)) * (fX0_quotient (86400000000000 : Int64) (fX0_nanosOfUnit p2)))]) C (c_X0_quotient l G (((xN S p1.toNatClampNeg) - (xN S p0.toNatClampNeg)) - (86400000000000 : Int64)) (fX0_nanosOfUnit p2)) F_X0_quotient rfl bw229 bw230 hE vpn hl.1 dX0_gapInUnits_123 ⟨Nat.le_of_ble_eq_true rfl, Nat.le_of_ble_eq_true rfl⟩ rfl (Nat.le_of_ble_eq_true rfl) ⟨Nat.zero_le _, Nat.zero_le _⟩ ?_
            refine lv_ladd hx hb dX0_gapInUnits_126 ?_
            exact re_l hx hb hr hk dX0_gapInUnits_127 (el (Eq.trans (if_neg c_1) (Eq.trans (if_pos c_7) (Eq.trans (if_neg c_8) (Eq.trans (if_neg c_10) (if_neg c_12))))))
          · refine lv_lload hx hb dX0_gapInUnits_95 (lv_at hl 1 rfl) ?_
            refine lv_ldc2 (v := (7 : Int64)) hx hb hown (hw _ bw248) dX0_gapInUnits_97 ?_
            refine lv_ldiv hx hb dX0_gapInUnits_100 (by decide) ?_
            exact re_l hx hb hr hk dX0_gapInUnits_101 (el (Eq.trans (if_neg c_1) (Eq.trans (if_pos c_7) (Eq.trans (if_neg c_8) (Eq.trans (if_neg c_10) (if_pos c_12))))))
    · refine lv_lload hx hb dX0_gapInUnits_44 (lv_at hl 1 rfl) ?_
      refine lv_lconst (v := (1 : Int64)) hx hb dX0_gapInUnits_46 ql_1 ?_
      refine lv_lsub hx hb dX0_gapInUnits_47 ?_
      refine lv_lstore (lv' := [(4, .long (((xD S p1.toNatClampNeg) - (xD S p0.toNatClampNeg)) - (1 : Int64))), (6, .long ((xN S p1.toNatClampNeg) - (xN S p0.toNatClampNeg))), (0, .ref (a 0)), (1, .int p0), (2, .int p1), (3, .int p2)]) hx hb dX0_gapInUnits_48 hl (Nat.le_of_ble_eq_true rfl) rfl (fun ls hl => ?_)
      refine lv_lload hx hb dX0_gapInUnits_50 (lv_at hl 1 rfl) ?_
      refine lv_ldc2 (v := (86400000000000 : Int64)) hx hb hown (hw _ bw190) dX0_gapInUnits_52 ?_
      refine lv_ladd hx hb dX0_gapInUnits_55 ?_
      refine lv_lstore (lv' := [(6, .long (((xN S p1.toNatClampNeg) - (xN S p0.toNatClampNeg)) + (86400000000000 : Int64))), (4, .long (((xD S p1.toNatClampNeg) - (xD S p0.toNatClampNeg)) - (1 : Int64))), (0, .ref (a 0)), (1, .int p0), (2, .int p1), (3, .int p2)]) hx hb dX0_gapInUnits_56 hl (Nat.le_of_ble_eq_true rfl) rfl (fun ls hl => ?_)
      refine lv_goto (tgt := 89) hx hb dX0_gapInUnits_58 (by decide) ?_
      refine lv_iload_n hx hb dX0_gapInUnits_89 rfl (lv_at hl 5 rfl) ?_
      refine lv_bipush (v := (8 : Int32)) hx hb dX0_gapInUnits_90 qb_8 ?_
      refine lv_icmp_ne (tgt := 102) hx hb dX0_gapInUnits_92 (by decide) (fun c_13 => ?_) (fun c_13 => ?_)
      · refine lv_iload_n hx hb dX0_gapInUnits_102 rfl (lv_at hl 5 rfl) ?_
        refine rcSl (as := [.int p2]) (rest := []) C (c_X0_nanosOfUnit l G p2) F_X0_nanosOfUnit rfl bw223 bw224 hE vpn hl.1 dX0_gapInUnits_103 ⟨Nat.le_of_ble_eq_true rfl, Nat.le_of_ble_eq_true rfl⟩ rfl (Nat.le_of_ble_eq_true rfl) ⟨Nat.zero_le _, Nat.zero_le _⟩ ?_
        refine lv_lstore (lv' := [(8, .long (fX0_nanosOfUnit p2)), (6, .long (((xN S p1.toNatClampNeg) - (xN S p0.toNatClampNeg)) + (86400000000000 : Int64))), (4, .long (((xD S p1.toNatClampNeg) - (xD S p0.toNatClampNeg)) - (1 : Int64))), (0, .ref (a 0)), (1, .int p0), (2, .int p1), (3, .int p2)]) hx hb dX0_gapInUnits_106 hl (Nat.le_of_ble_eq_true rfl) rfl (fun ls hl => ?_)
        refine lv_lload hx hb dX0_gapInUnits_108 (lv_at hl 2 rfl) ?_
        refine lv_ldc2 (v := (86400000000000 : Int64)) hx hb hown (hw _ bw190) dX0_gapInUnits_110 ?_
        refine lv_lload hx hb dX0_gapInUnits_113 (lv_at hl 0 rfl) ?_
        refine rcSl (as := [.long (86400000000000 : Int64), .long (fX0_nanosOfUnit p2)]) (rest := [.long (((xD S p1.toNatClampNeg) - (xD S p0.toNatClampNeg)) - (1 : Int64))]) C (c_X0_quotient l G (86400000000000 : Int64) (fX0_nanosOfUnit p2)) F_X0_quotient rfl bw229 bw230 hE vpn hl.1 dX0_gapInUnits_115 ⟨Nat.le_of_ble_eq_true rfl, Nat.le_of_ble_eq_true rfl⟩ rfl (Nat.le_of_ble_eq_true rfl) ⟨Nat.zero_le _, Nat.zero_le _⟩ ?_
        refine lv_lmul hx hb dX0_gapInUnits_118 ?_
        refine lv_lload hx hb dX0_gapInUnits_119 (lv_at hl 1 rfl) ?_
        refine lv_lload hx hb dX0_gapInUnits_121 (lv_at hl 0 rfl) ?_
        refine rcSl (as := [.long (((xN S p1.toNatClampNeg) - (xN S p0.toNatClampNeg)) + (86400000000000 : Int64)), .long (fX0_nanosOfUnit p2)]) (rest := [.long ((((xD S p1.toNatClampNeg) - (xD S p0.toNatClampNeg)) - (1 : Int64)) * (fX0_quotient (86400000000000 : Int64) (fX0_nanosOfUnit p2)))]) C (c_X0_quotient l G (((xN S p1.toNatClampNeg) - (xN S p0.toNatClampNeg)) + (86400000000000 : Int64)) (fX0_nanosOfUnit p2)) F_X0_quotient rfl bw229 bw230 hE vpn hl.1 dX0_gapInUnits_123 ⟨Nat.le_of_ble_eq_true rfl, Nat.le_of_ble_eq_true rfl⟩ rfl (Nat.le_of_ble_eq_true rfl) ⟨Nat.zero_le _, Nat.zero_le _⟩ ?_
        refine lv_ladd hx hb dX0_gapInUnits_126 ?_
        exact re_l hx hb hr hk dX0_gapInUnits_127 (el (Eq.trans (if_neg c_1) (Eq.trans (if_neg c_7) (if_neg c_13))))
      · refine lv_lload hx hb dX0_gapInUnits_95 (lv_at hl 1 rfl) ?_
        refine lv_ldc2 (v := (7 : Int64)) hx hb hown (hw _ bw248) dX0_gapInUnits_97 ?_
        refine lv_ldiv hx hb dX0_gapInUnits_100 (by decide) ?_
        exact re_l hx hb hr hk dX0_gapInUnits_101 (el (Eq.trans (if_neg c_1) (Eq.trans (if_neg c_7) (if_pos c_13))))

set_option maxRecDepth 100000 in
set_option maxHeartbeats 4000000 in
theorem c_X0_wholeMonths (l : Launch) (G : GT) (a : Nat → Nat) (S : SX) (p0 : Int32) (p1 : Int32) (h0 : vp_in p0 6) (h1 : vp_in p1 6) : RO l G yX0_wholeMonths cX0_wholeMonths 6 (some .long) 2 [.ref (a 0), .int p0, .int p1] (wX G a S) (some (.long (fX0_wholeMonths S p0 p1))) := by
  refine RO.ofW (own := RX0) rfl (plainFor_of_name pnN_RX0) (Nat.le_of_ble_eq_true rfl) ?_
  intro p e s m below meth c C hr hk hE hP ls hl
  have hx := C.1
  have hb := C.2.1
  have hown := C.2.2.2.1
  have hw := C.2.2.2.2
  have hl : lv_has ls 6 [(0, .ref (a 0)), (1, .int p0), (2, .int p1)] := hl
  refine lv_aload_n hx hb dX0_wholeMonths_0 rfl (lv_at hl 0 rfl) ?_
  refine lv_iload_n hx hb dX0_wholeMonths_1 rfl (lv_at hl 2 rfl) ?_
  refine rcVl (as := [.int p1]) (rest := []) (cl := RX0) C (c_X0_monthCount l G a S p1 h1) F_X0_monthCount rfl bw548 bw550 bw25 hE hP (rv2 hE.K hP (q0 := 0) rfl) hl.1 dX0_wholeMonths_2 ⟨Nat.le_of_ble_eq_true rfl, Nat.le_of_ble_eq_true rfl⟩ rfl (Nat.le_of_ble_eq_true rfl) ⟨Nat.zero_le _, Nat.zero_le _⟩ ?_
  refine lv_aload_n hx hb dX0_wholeMonths_5 rfl (lv_at hl 0 rfl) ?_
  refine lv_iload_n hx hb dX0_wholeMonths_6 rfl (lv_at hl 1 rfl) ?_
  refine rcVl (as := [.int p0]) (rest := [.long (fX0_monthCount S p1)]) (cl := RX0) C (c_X0_monthCount l G a S p0 h0) F_X0_monthCount rfl bw548 bw550 bw25 hE hP (rv2 hE.K hP (q0 := 0) rfl) hl.1 dX0_wholeMonths_7 ⟨Nat.le_of_ble_eq_true rfl, Nat.le_of_ble_eq_true rfl⟩ rfl (Nat.le_of_ble_eq_true rfl) ⟨Nat.zero_le _, Nat.zero_le _⟩ ?_
  refine lv_lsub hx hb dX0_wholeMonths_10 ?_
  refine lv_lstore_n (lv' := [(3, .long ((fX0_monthCount S p1) - (fX0_monthCount S p0))), (0, .ref (a 0)), (1, .int p0), (2, .int p1)]) hx hb dX0_wholeMonths_11 rfl hl (Nat.le_of_ble_eq_true rfl) rfl (fun ls hl => ?_)
  refine lv_aload_n hx hb dX0_wholeMonths_12 rfl (lv_at hl 1 rfl) ?_
  refine va_get (D := gD G) (cl := vwCl) (tys := gT G) (ci := 2) (v := .ref (a 3)) (C := RX0) (T := TX0) (N := 12) hx hb hw inB_X0 hown hE.K hP 0 rfl rfl 2 (by decide) (hw _ bw96) (fun _ h9 => h9) rfl dX0_wholeMonths_13 ?_
  refine lv_iload_n hx hb dX0_wholeMonths_16 rfl (lv_at hl 3 rfl) ?_
  refine va_iald (tys := gT G) hx hb hE.K hP 3 0 rfl rfl h1 dX0_wholeMonths_17 ?_
  refine lv_aload_n hx hb dX0_wholeMonths_18 rfl (lv_at hl 1 rfl) ?_
  refine va_get (D := gD G) (cl := vwCl) (tys := gT G) (ci := 2) (v := .ref (a 3)) (C := RX0) (T := TX0) (N := 12) hx hb hw inB_X0 hown hE.K hP 0 rfl rfl 2 (by decide) (hw _ bw96) (fun _ h9 => h9) rfl dX0_wholeMonths_19 ?_
  refine lv_iload_n hx hb dX0_wholeMonths_22 rfl (lv_at hl 2 rfl) ?_
  refine va_iald (tys := gT G) hx hb hE.K hP 3 0 rfl rfl h0 dX0_wholeMonths_23 ?_
  refine lv_icmp_lt (tgt := 58) hx hb dX0_wholeMonths_24 (by decide) (fun c_1 => ?_) (fun c_1 => ?_)
  · refine lv_iconst (v := (1 : Int32)) hx hb dX0_wholeMonths_58 qi_1 ?_
    refine lv_goto (tgt := 63) hx hb dX0_wholeMonths_59 (by decide) ?_
    refine lv_istore (lv' := [(5, .int (1 : Int32)), (3, .long ((fX0_monthCount S p1) - (fX0_monthCount S p0))), (0, .ref (a 0)), (1, .int p0), (2, .int p1)]) hx hb dX0_wholeMonths_63 hl (Nat.le_of_ble_eq_true rfl) rfl (fun ls hl => ?_)
    refine lv_iload hx hb dX0_wholeMonths_65 (lv_at hl 0 rfl) ?_
    refine lv_if_eq (tgt := 76) hx hb dX0_wholeMonths_67 (by decide) (fun c_x => absurd c_x (by decide)) (fun _ => ?_)
    refine lv_lload_n hx hb dX0_wholeMonths_70 rfl (lv_at hl 1 rfl) ?_
    refine lv_lconst (v := (1 : Int64)) hx hb dX0_wholeMonths_71 ql_1 ?_
    refine lv_lsub hx hb dX0_wholeMonths_72 ?_
    refine lv_goto (tgt := 77) hx hb dX0_wholeMonths_73 (by decide) ?_
    exact re_l hx hb hr hk dX0_wholeMonths_77 (el (if_pos c_1))
  · refine lv_aload_n hx hb dX0_wholeMonths_27 rfl (lv_at hl 1 rfl) ?_
    refine va_get (D := gD G) (cl := vwCl) (tys := gT G) (ci := 2) (v := .ref (a 3)) (C := RX0) (T := TX0) (N := 12) hx hb hw inB_X0 hown hE.K hP 0 rfl rfl 2 (by decide) (hw _ bw96) (fun _ h9 => h9) rfl dX0_wholeMonths_28 ?_
    refine lv_iload_n hx hb dX0_wholeMonths_31 rfl (lv_at hl 3 rfl) ?_
    refine va_iald (tys := gT G) hx hb hE.K hP 3 0 rfl rfl h1 dX0_wholeMonths_32 ?_
    refine lv_aload_n hx hb dX0_wholeMonths_33 rfl (lv_at hl 1 rfl) ?_
    refine va_get (D := gD G) (cl := vwCl) (tys := gT G) (ci := 2) (v := .ref (a 3)) (C := RX0) (T := TX0) (N := 12) hx hb hw inB_X0 hown hE.K hP 0 rfl rfl 2 (by decide) (hw _ bw96) (fun _ h9 => h9) rfl dX0_wholeMonths_34 ?_
    refine lv_iload_n hx hb dX0_wholeMonths_37 rfl (lv_at hl 2 rfl) ?_
    refine va_iald (tys := gT G) hx hb hE.K hP 3 0 rfl rfl h0 dX0_wholeMonths_38 ?_
    refine lv_icmp_ne (tgt := 62) hx hb dX0_wholeMonths_39 (by decide) (fun c_2 => ?_) (fun c_2 => ?_)
    · refine lv_iconst (v := (0 : Int32)) hx hb dX0_wholeMonths_62 qi_0 ?_
      refine lv_istore (lv' := [(5, .int (0 : Int32)), (3, .long ((fX0_monthCount S p1) - (fX0_monthCount S p0))), (0, .ref (a 0)), (1, .int p0), (2, .int p1)]) hx hb dX0_wholeMonths_63 hl (Nat.le_of_ble_eq_true rfl) rfl (fun ls hl => ?_)
      refine lv_iload hx hb dX0_wholeMonths_65 (lv_at hl 0 rfl) ?_
      refine lv_if_eq (tgt := 76) hx hb dX0_wholeMonths_67 (by decide) (fun _ => ?_) (fun c_x => absurd (show (0 : Int32) = 0 from by decide) c_x)
      refine lv_lload_n hx hb dX0_wholeMonths_76 rfl (lv_at hl 1 rfl) ?_
      exact re_l hx hb hr hk dX0_wholeMonths_77 (el (Eq.trans (if_neg c_1) (if_neg c_2)))
    · refine lv_aload_n hx hb dX0_wholeMonths_42 rfl (lv_at hl 1 rfl) ?_
      refine va_get (D := gD G) (cl := vwCl) (tys := gT G) (ci := 2) (v := .ref (a 5)) (C := RX0) (T := TX0) (N := 12) hx hb hw inB_X0 hown hE.K hP 0 rfl rfl 4 (by decide) (hw _ bw98) (fun _ h9 => h9) rfl dX0_wholeMonths_43 ?_
      refine lv_iload_n hx hb dX0_wholeMonths_46 rfl (lv_at hl 3 rfl) ?_
      refine va_lald (tys := gT G) hx hb hE.K hP 5 1 rfl rfl h1 dX0_wholeMonths_47 ?_
      refine lv_aload_n hx hb dX0_wholeMonths_48 rfl (lv_at hl 1 rfl) ?_
      refine va_get (D := gD G) (cl := vwCl) (tys := gT G) (ci := 2) (v := .ref (a 5)) (C := RX0) (T := TX0) (N := 12) hx hb hw inB_X0 hown hE.K hP 0 rfl rfl 4 (by decide) (hw _ bw98) (fun _ h9 => h9) rfl dX0_wholeMonths_49 ?_
      refine lv_iload_n hx hb dX0_wholeMonths_52 rfl (lv_at hl 2 rfl) ?_
      refine va_lald (tys := gT G) hx hb hE.K hP 5 1 rfl rfl h0 dX0_wholeMonths_53 ?_
      refine W.lcmp hx hb dX0_wholeMonths_54 ?_
      refine k_dia (b := 0 ≤ (lg_cmp (xN S p1.toNatClampNeg) (xN S p0.toNatClampNeg))) (x := (0 : Int32)) (y := (1 : Int32)) (Wg := fun z9 => W _ _ _ _ _ _ _ _ _ _ _ _ _ _ _ (F0 m 63 ls (.int z9 :: _))) ?_ (fun t9 f9 => lv_if_ge (tgt := 62) hx hb dX0_wholeMonths_55 (by decide) (fun c_x => lv_iconst (v := (0 : Int32)) hx hb dX0_wholeMonths_62 qi_0 (t9 c_x)) (fun c_x => lv_iconst (v := (1 : Int32)) hx hb dX0_wholeMonths_58 qi_1 (lv_goto (tgt := 63) hx hb dX0_wholeMonths_59 (by decide) (f9 c_x))))
      refine lv_istore (lv' := [(5, .int (if 0 ≤ (lg_cmp (xN S p1.toNatClampNeg) (xN S p0.toNatClampNeg)) then (0 : Int32) else (1 : Int32))), (3, .long ((fX0_monthCount S p1) - (fX0_monthCount S p0))), (0, .ref (a 0)), (1, .int p0), (2, .int p1)]) hx hb dX0_wholeMonths_63 hl (Nat.le_of_ble_eq_true rfl) rfl (fun ls hl => ?_)
      refine lv_iload hx hb dX0_wholeMonths_65 (lv_at hl 0 rfl) ?_
      refine lv_if_eq (tgt := 76) hx hb dX0_wholeMonths_67 (by decide) (fun c_3 => ?_) (fun c_3 => ?_)
      · refine lv_lload_n hx hb dX0_wholeMonths_76 rfl (lv_at hl 1 rfl) ?_
        exact re_l hx hb hr hk dX0_wholeMonths_77 (el (Eq.trans (if_neg c_1) (Eq.trans (if_pos c_2) (if_pos c_3))))
      · refine lv_lload_n hx hb dX0_wholeMonths_70 rfl (lv_at hl 1 rfl) ?_
        refine lv_lconst (v := (1 : Int64)) hx hb dX0_wholeMonths_71 ql_1 ?_
        refine lv_lsub hx hb dX0_wholeMonths_72 ?_
        refine lv_goto (tgt := 77) hx hb dX0_wholeMonths_73 (by decide) ?_
        exact re_l hx hb hr hk dX0_wholeMonths_77 (el (Eq.trans (if_neg c_1) (Eq.trans (if_pos c_2) (if_neg c_3))))

set_option maxRecDepth 100000 in
set_option maxHeartbeats 4000000 in
theorem c_X0_gapInMonths (l : Launch) (G : GT) (a : Nat → Nat) (S : SX) (p0 : Int32) (p1 : Int32) (h0 : vp_in p0 6) (h1 : vp_in p1 6) : RO l G yX0_gapInMonths cX0_gapInMonths 3 (some .long) 3 [.ref (a 0), .int p0, .int p1] (wX G a S) (some (.long (fX0_gapInMonths S p0 p1))) := by
  refine RO.ofW (own := RX0) rfl (plainFor_of_name pnN_RX0) (Nat.le_of_ble_eq_true rfl) ?_
  intro p e s m below meth c C hr hk hE hP ls hl
  have hx := C.1
  have hb := C.2.1
  have hown := C.2.2.2.1
  have hw := C.2.2.2.2
  have hl : lv_has ls 3 [(0, .ref (a 0)), (1, .int p0), (2, .int p1)] := hl
  refine lv_aload_n hx hb dX0_gapInMonths_0 rfl (lv_at hl 0 rfl) ?_
  refine lv_iload_n hx hb dX0_gapInMonths_1 rfl (lv_at hl 2 rfl) ?_
  refine lv_iload_n hx hb dX0_gapInMonths_2 rfl (lv_at hl 1 rfl) ?_
  refine rcVi (as := [.int p1, .int p0]) (rest := []) (cl := RX0) C (c_X0_order l G a S p1 p0 h1 h0) F_X0_order rfl bw236 bw238 bw9 hE hP (rv2 hE.K hP (q0 := 0) rfl) hl.1 dX0_gapInMonths_3 ⟨Nat.le_of_ble_eq_true rfl, Nat.le_of_ble_eq_true rfl⟩ rfl (Nat.le_of_ble_eq_true rfl) ⟨Nat.zero_le _, Nat.zero_le _⟩ ?_
  refine lv_if_ge (tgt := 17) hx hb dX0_gapInMonths_6 (by decide) (fun c_1 => ?_) (fun c_1 => ?_)
  · refine lv_aload_n hx hb dX0_gapInMonths_17 rfl (lv_at hl 0 rfl) ?_
    refine lv_iload_n hx hb dX0_gapInMonths_18 rfl (lv_at hl 1 rfl) ?_
    refine lv_iload_n hx hb dX0_gapInMonths_19 rfl (lv_at hl 2 rfl) ?_
    refine rcVl (as := [.int p0, .int p1]) (rest := []) (cl := RX0) C (c_X0_wholeMonths l G a S p0 p1 h0 h1) F_X0_wholeMonths rfl bw1139 bw1141 bw32 hE hP (rv2 hE.K hP (q0 := 0) rfl) hl.1 dX0_gapInMonths_20 ⟨Nat.le_of_ble_eq_true rfl, Nat.le_of_ble_eq_true rfl⟩ rfl (Nat.le_of_ble_eq_true rfl) ⟨Nat.zero_le _, Nat.zero_le _⟩ ?_
    exact re_l hx hb hr hk dX0_gapInMonths_23 (el (if_pos c_1))
  · refine lv_aload_n hx hb dX0_gapInMonths_9 rfl (lv_at hl 0 rfl) ?_
    refine lv_iload_n hx hb dX0_gapInMonths_10 rfl (lv_at hl 2 rfl) ?_
    refine lv_iload_n hx hb dX0_gapInMonths_11 rfl (lv_at hl 1 rfl) ?_
    refine rcVl (as := [.int p1, .int p0]) (rest := []) (cl := RX0) C (c_X0_wholeMonths l G a S p1 p0 h1 h0) F_X0_wholeMonths rfl bw1139 bw1141 bw32 hE hP (rv2 hE.K hP (q0 := 0) rfl) hl.1 dX0_gapInMonths_12 ⟨Nat.le_of_ble_eq_true rfl, Nat.le_of_ble_eq_true rfl⟩ rfl (Nat.le_of_ble_eq_true rfl) ⟨Nat.zero_le _, Nat.zero_le _⟩ ?_
    refine lv_lneg hx hb dX0_gapInMonths_15 ?_
    exact re_l hx hb hr hk dX0_gapInMonths_16 (el (if_neg c_1))

set_option maxRecDepth 100000 in
set_option maxHeartbeats 4000000 in
theorem c_X0_isRepeated (l : Launch) (G : GT) (a : Nat → Nat) (S : SX) (p0 : Int32) (h0 : vp_in p0 6) : RO l G yX0_isRepeated cX0_isRepeated 3 (some .boolean) 2 [.ref (a 0), .int p0] (wX G a S) (some (.int (fX0_isRepeated S p0))) := by
  refine RO.ofW (own := RX0) rfl (plainFor_of_name pnN_RX0) (Nat.le_of_ble_eq_true rfl) ?_
  intro p e s m below meth c C hr hk hE hP ls hl
  have hx := C.1
  have hb := C.2.1
  have hown := C.2.2.2.1
  have hw := C.2.2.2.2
  have hl : lv_has ls 3 [(0, .ref (a 0)), (1, .int p0)] := hl
  refine lv_iconst (v := (0 : Int32)) hx hb dX0_isRepeated_0 qi_0 ?_
  refine lv_istore_n (lv' := [(2, .int (0 : Int32)), (0, .ref (a 0)), (1, .int p0)]) hx hb dX0_isRepeated_1 rfl hl (Nat.le_of_ble_eq_true rfl) rfl (fun ls hl => ?_)
  refine lv_iload_n hx hb dX0_isRepeated_2 rfl (lv_at hl 0 rfl) ?_
  refine lv_iload_n hx hb dX0_isRepeated_3 rfl (lv_at hl 2 rfl) ?_
  refine lv_icmp_ge (tgt := 24) hx hb dX0_isRepeated_4 (by decide) (fun c_1 => ?_) (fun c_1 => ?_)
  · refine lv_iconst (v := (0 : Int32)) hx hb dX0_isRepeated_24 qi_0 ?_
    exact re_z (ty := .boolean) hx hb hr hk (by decide) dX0_isRepeated_25 (ei (if_pos c_1))
  · refine lv_aload_n hx hb dX0_isRepeated_7 rfl (lv_at hl 1 rfl) ?_
    refine lv_iload_n hx hb dX0_isRepeated_8 rfl (lv_at hl 2 rfl) ?_
    refine lv_iload_n hx hb dX0_isRepeated_9 rfl (lv_at hl 0 rfl) ?_
    refine rcVi (as := [.int p0, .int (0 : Int32)]) (rest := []) (cl := RX0) C (c_X0_isSameLine l G a S p0 (0 : Int32) h0 (vp_in_lit 0)) F_X0_isSameLine rfl bw240 bw242 bw10 hE hP (rv2 hE.K hP (q0 := 0) rfl) hl.1 dX0_isRepeated_10 ⟨Nat.le_of_ble_eq_true rfl, Nat.le_of_ble_eq_true rfl⟩ rfl (Nat.le_of_ble_eq_true rfl) ⟨Nat.zero_le _, Nat.zero_le _⟩ ?_
    refine lv_if_eq (tgt := 18) hx hb dX0_isRepeated_13 (by decide) (fun c_2 => ?_) (fun c_2 => ?_)
    · refine lv_iinc (v := (1 : Int32)) (lv' := [(2, .int (1 : Int32)), (0, .ref (a 0)), (1, .int p0)]) hx hb dX0_isRepeated_18 hl (k := 0) rfl (by first | rfl | decide) (Nat.le_of_ble_eq_true rfl) rfl (fun ls hl => ?_)
      refine lv_goto (tgt := 2) hx hb dX0_isRepeated_21 (by decide) ?_
      refine lv_iload_n hx hb dX0_isRepeated_2 rfl (lv_at hl 0 rfl) ?_
      refine lv_iload_n hx hb dX0_isRepeated_3 rfl (lv_at hl 2 rfl) ?_
      refine lv_icmp_ge (tgt := 24) hx hb dX0_isRepeated_4 (by decide) (fun c_3 => ?_) (fun c_3 => ?_)
      · refine lv_iconst (v := (0 : Int32)) hx hb dX0_isRepeated_24 qi_0 ?_
        exact re_z (ty := .boolean) hx hb hr hk (by decide) dX0_isRepeated_25 (ei (Eq.trans (if_neg c_1) (Eq.trans (if_pos c_2) (if_pos c_3))))
      · refine lv_aload_n hx hb dX0_isRepeated_7 rfl (lv_at hl 1 rfl) ?_
        refine lv_iload_n hx hb dX0_isRepeated_8 rfl (lv_at hl 2 rfl) ?_
        refine lv_iload_n hx hb dX0_isRepeated_9 rfl (lv_at hl 0 rfl) ?_
        refine rcVi (as := [.int p0, .int (1 : Int32)]) (rest := []) (cl := RX0) C (c_X0_isSameLine l G a S p0 (1 : Int32) h0 (vp_in_lit 1)) F_X0_isSameLine rfl bw240 bw242 bw10 hE hP (rv2 hE.K hP (q0 := 0) rfl) hl.1 dX0_isRepeated_10 ⟨Nat.le_of_ble_eq_true rfl, Nat.le_of_ble_eq_true rfl⟩ rfl (Nat.le_of_ble_eq_true rfl) ⟨Nat.zero_le _, Nat.zero_le _⟩ ?_
        refine lv_if_eq (tgt := 18) hx hb dX0_isRepeated_13 (by decide) (fun c_4 => ?_) (fun c_4 => ?_)
        · refine lv_iinc (v := (2 : Int32)) (lv' := [(2, .int (2 : Int32)), (0, .ref (a 0)), (1, .int p0)]) hx hb dX0_isRepeated_18 hl (k := 0) rfl (by first | rfl | decide) (Nat.le_of_ble_eq_true rfl) rfl (fun ls hl => ?_)
          refine lv_goto (tgt := 2) hx hb dX0_isRepeated_21 (by decide) ?_
          refine lv_iload_n hx hb dX0_isRepeated_2 rfl (lv_at hl 0 rfl) ?_
          refine lv_iload_n hx hb dX0_isRepeated_3 rfl (lv_at hl 2 rfl) ?_
          refine lv_icmp_ge (tgt := 24) hx hb dX0_isRepeated_4 (by decide) (fun c_5 => ?_) (fun c_5 => ?_)
          · refine lv_iconst (v := (0 : Int32)) hx hb dX0_isRepeated_24 qi_0 ?_
            exact re_z (ty := .boolean) hx hb hr hk (by decide) dX0_isRepeated_25 (ei (Eq.trans (if_neg c_1) (Eq.trans (if_pos c_2) (Eq.trans (if_neg c_3) (Eq.trans (if_pos c_4) (if_pos c_5))))))
          · refine lv_aload_n hx hb dX0_isRepeated_7 rfl (lv_at hl 1 rfl) ?_
            refine lv_iload_n hx hb dX0_isRepeated_8 rfl (lv_at hl 2 rfl) ?_
            refine lv_iload_n hx hb dX0_isRepeated_9 rfl (lv_at hl 0 rfl) ?_
            refine rcVi (as := [.int p0, .int (2 : Int32)]) (rest := []) (cl := RX0) C (c_X0_isSameLine l G a S p0 (2 : Int32) h0 (vp_in_lit 2)) F_X0_isSameLine rfl bw240 bw242 bw10 hE hP (rv2 hE.K hP (q0 := 0) rfl) hl.1 dX0_isRepeated_10 ⟨Nat.le_of_ble_eq_true rfl, Nat.le_of_ble_eq_true rfl⟩ rfl (Nat.le_of_ble_eq_true rfl) ⟨Nat.zero_le _, Nat.zero_le _⟩ ?_
            refine lv_if_eq (tgt := 18) hx hb dX0_isRepeated_13 (by decide) (fun c_6 => ?_) (fun c_6 => ?_)
            · refine lv_iinc (v := (3 : Int32)) (lv' := [(2, .int (3 : Int32)), (0, .ref (a 0)), (1, .int p0)]) hx hb dX0_isRepeated_18 hl (k := 0) rfl (by first | rfl | decide) (Nat.le_of_ble_eq_true rfl) rfl (fun ls hl => ?_)
              refine lv_goto (tgt := 2) hx hb dX0_isRepeated_21 (by decide) ?_
              refine lv_iload_n hx hb dX0_isRepeated_2 rfl (lv_at hl 0 rfl) ?_
              refine lv_iload_n hx hb dX0_isRepeated_3 rfl (lv_at hl 2 rfl) ?_
              refine lv_icmp_ge (tgt := 24) hx hb dX0_isRepeated_4 (by decide) (fun c_7 => ?_) (fun c_7 => ?_)
              · refine lv_iconst (v := (0 : Int32)) hx hb dX0_isRepeated_24 qi_0 ?_
                exact re_z (ty := .boolean) hx hb hr hk (by decide) dX0_isRepeated_25 (ei (Eq.trans (if_neg c_1) (Eq.trans (if_pos c_2) (Eq.trans (if_neg c_3) (Eq.trans (if_pos c_4) (Eq.trans (if_neg c_5) (Eq.trans (if_pos c_6) (if_pos c_7))))))))
              · refine lv_aload_n hx hb dX0_isRepeated_7 rfl (lv_at hl 1 rfl) ?_
                refine lv_iload_n hx hb dX0_isRepeated_8 rfl (lv_at hl 2 rfl) ?_
                refine lv_iload_n hx hb dX0_isRepeated_9 rfl (lv_at hl 0 rfl) ?_
                refine rcVi (as := [.int p0, .int (3 : Int32)]) (rest := []) (cl := RX0) C (c_X0_isSameLine l G a S p0 (3 : Int32) h0 (vp_in_lit 3)) F_X0_isSameLine rfl bw240 bw242 bw10 hE hP (rv2 hE.K hP (q0 := 0) rfl) hl.1 dX0_isRepeated_10 ⟨Nat.le_of_ble_eq_true rfl, Nat.le_of_ble_eq_true rfl⟩ rfl (Nat.le_of_ble_eq_true rfl) ⟨Nat.zero_le _, Nat.zero_le _⟩ ?_
                refine lv_if_eq (tgt := 18) hx hb dX0_isRepeated_13 (by decide) (fun c_8 => ?_) (fun c_8 => ?_)
                · refine lv_iinc (v := (4 : Int32)) (lv' := [(2, .int (4 : Int32)), (0, .ref (a 0)), (1, .int p0)]) hx hb dX0_isRepeated_18 hl (k := 0) rfl (by first | rfl | decide) (Nat.le_of_ble_eq_true rfl) rfl (fun ls hl => ?_)
                  refine lv_goto (tgt := 2) hx hb dX0_isRepeated_21 (by decide) ?_
                  refine lv_iload_n hx hb dX0_isRepeated_2 rfl (lv_at hl 0 rfl) ?_
                  refine lv_iload_n hx hb dX0_isRepeated_3 rfl (lv_at hl 2 rfl) ?_
                  refine lv_icmp_ge (tgt := 24) hx hb dX0_isRepeated_4 (by decide) (fun c_9 => ?_) (fun c_9 => ?_)
                  · refine lv_iconst (v := (0 : Int32)) hx hb dX0_isRepeated_24 qi_0 ?_
                    exact re_z (ty := .boolean) hx hb hr hk (by decide) dX0_isRepeated_25 (ei (Eq.trans (if_neg c_1) (Eq.trans (if_pos c_2) (Eq.trans (if_neg c_3) (Eq.trans (if_pos c_4) (Eq.trans (if_neg c_5) (Eq.trans (if_pos c_6) (Eq.trans (if_neg c_7) (Eq.trans (if_pos c_8) (if_pos c_9))))))))))
                  · refine lv_aload_n hx hb dX0_isRepeated_7 rfl (lv_at hl 1 rfl) ?_
                    refine lv_iload_n hx hb dX0_isRepeated_8 rfl (lv_at hl 2 rfl) ?_
                    refine lv_iload_n hx hb dX0_isRepeated_9 rfl (lv_at hl 0 rfl) ?_
                    refine rcVi (as := [.int p0, .int (4 : Int32)]) (rest := []) (cl := RX0) C (c_X0_isSameLine l G a S p0 (4 : Int32) h0 (vp_in_lit 4)) F_X0_isSameLine rfl bw240 bw242 bw10 hE hP (rv2 hE.K hP (q0 := 0) rfl) hl.1 dX0_isRepeated_10 ⟨Nat.le_of_ble_eq_true rfl, Nat.le_of_ble_eq_true rfl⟩ rfl (Nat.le_of_ble_eq_true rfl) ⟨Nat.zero_le _, Nat.zero_le _⟩ ?_
                    refine lv_if_eq (tgt := 18) hx hb dX0_isRepeated_13 (by decide) (fun c_10 => ?_) (fun c_10 => ?_)
                    · refine lv_iinc (v := (5 : Int32)) (lv' := [(2, .int (5 : Int32)), (0, .ref (a 0)), (1, .int p0)]) hx hb dX0_isRepeated_18 hl (k := 0) rfl (by first | rfl | decide) (Nat.le_of_ble_eq_true rfl) rfl (fun ls hl => ?_)
                      refine lv_goto (tgt := 2) hx hb dX0_isRepeated_21 (by decide) ?_
                      refine lv_iload_n hx hb dX0_isRepeated_2 rfl (lv_at hl 0 rfl) ?_
                      refine lv_iload_n hx hb dX0_isRepeated_3 rfl (lv_at hl 2 rfl) ?_
                      refine lv_icmp_ge (tgt := 24) hx hb dX0_isRepeated_4 (by decide) (fun c_11 => ?_) (fun c_11 => ?_)
                      · refine lv_iconst (v := (0 : Int32)) hx hb dX0_isRepeated_24 qi_0 ?_
                        exact re_z (ty := .boolean) hx hb hr hk (by decide) dX0_isRepeated_25 (ei (Eq.trans (if_neg c_1) (Eq.trans (if_pos c_2) (Eq.trans (if_neg c_3) (Eq.trans (if_pos c_4) (Eq.trans (if_neg c_5) (Eq.trans (if_pos c_6) (Eq.trans (if_neg c_7) (Eq.trans (if_pos c_8) (Eq.trans (if_neg c_9) (Eq.trans (if_pos c_10) (if_pos c_11))))))))))))
                      · refine lv_aload_n hx hb dX0_isRepeated_7 rfl (lv_at hl 1 rfl) ?_
                        refine lv_iload_n hx hb dX0_isRepeated_8 rfl (lv_at hl 2 rfl) ?_
                        refine lv_iload_n hx hb dX0_isRepeated_9 rfl (lv_at hl 0 rfl) ?_
                        refine rcVi (as := [.int p0, .int (5 : Int32)]) (rest := []) (cl := RX0) C (c_X0_isSameLine l G a S p0 (5 : Int32) h0 (vp_in_lit 5)) F_X0_isSameLine rfl bw240 bw242 bw10 hE hP (rv2 hE.K hP (q0 := 0) rfl) hl.1 dX0_isRepeated_10 ⟨Nat.le_of_ble_eq_true rfl, Nat.le_of_ble_eq_true rfl⟩ rfl (Nat.le_of_ble_eq_true rfl) ⟨Nat.zero_le _, Nat.zero_le _⟩ ?_
                        refine lv_if_eq (tgt := 18) hx hb dX0_isRepeated_13 (by decide) (fun c_12 => ?_) (fun c_12 => ?_)
                        · refine lv_iinc (v := (6 : Int32)) (lv' := [(2, .int (6 : Int32)), (0, .ref (a 0)), (1, .int p0)]) hx hb dX0_isRepeated_18 hl (k := 0) rfl (by first | rfl | decide) (Nat.le_of_ble_eq_true rfl) rfl (fun ls hl => ?_)
                          refine lv_goto (tgt := 2) hx hb dX0_isRepeated_21 (by decide) ?_
                          refine lv_iload_n hx hb dX0_isRepeated_2 rfl (lv_at hl 0 rfl) ?_
                          refine lv_iload_n hx hb dX0_isRepeated_3 rfl (lv_at hl 2 rfl) ?_
                          refine lv_icmp_ge (tgt := 24) hx hb dX0_isRepeated_4 (by decide) (fun _ => ?_) (fun c_x => absurd (Int32.le_of_lt (vin_lt (by decide) h0)) c_x)
                          refine lv_iconst (v := (0 : Int32)) hx hb dX0_isRepeated_24 qi_0 ?_
                          exact re_z (ty := .boolean) hx hb hr hk (by decide) dX0_isRepeated_25 (ei (Eq.trans (if_neg c_1) (Eq.trans (if_pos c_2) (Eq.trans (if_neg c_3) (Eq.trans (if_pos c_4) (Eq.trans (if_neg c_5) (Eq.trans (if_pos c_6) (Eq.trans (if_neg c_7) (Eq.trans (if_pos c_8) (Eq.trans (if_neg c_9) (Eq.trans (if_pos c_10) (Eq.trans (if_neg c_11) (if_pos c_12)))))))))))))
                        · refine lv_iconst (v := (1 : Int32)) hx hb dX0_isRepeated_16 qi_1 ?_
                          exact re_z (ty := .boolean) hx hb hr hk (by decide) dX0_isRepeated_17 (ei (Eq.trans (if_neg c_1) (Eq.trans (if_pos c_2) (Eq.trans (if_neg c_3) (Eq.trans (if_pos c_4) (Eq.trans (if_neg c_5) (Eq.trans (if_pos c_6) (Eq.trans (if_neg c_7) (Eq.trans (if_pos c_8) (Eq.trans (if_neg c_9) (Eq.trans (if_pos c_10) (Eq.trans (if_neg c_11) (if_neg c_12)))))))))))))
                    · refine lv_iconst (v := (1 : Int32)) hx hb dX0_isRepeated_16 qi_1 ?_
                      exact re_z (ty := .boolean) hx hb hr hk (by decide) dX0_isRepeated_17 (ei (Eq.trans (if_neg c_1) (Eq.trans (if_pos c_2) (Eq.trans (if_neg c_3) (Eq.trans (if_pos c_4) (Eq.trans (if_neg c_5) (Eq.trans (if_pos c_6) (Eq.trans (if_neg c_7) (Eq.trans (if_pos c_8) (Eq.trans (if_neg c_9) (if_neg c_10)))))))))))
                · refine lv_iconst (v := (1 : Int32)) hx hb dX0_isRepeated_16 qi_1 ?_
                  exact re_z (ty := .boolean) hx hb hr hk (by decide) dX0_isRepeated_17 (ei (Eq.trans (if_neg c_1) (Eq.trans (if_pos c_2) (Eq.trans (if_neg c_3) (Eq.trans (if_pos c_4) (Eq.trans (if_neg c_5) (Eq.trans (if_pos c_6) (Eq.trans (if_neg c_7) (if_neg c_8)))))))))
            · refine lv_iconst (v := (1 : Int32)) hx hb dX0_isRepeated_16 qi_1 ?_
              exact re_z (ty := .boolean) hx hb hr hk (by decide) dX0_isRepeated_17 (ei (Eq.trans (if_neg c_1) (Eq.trans (if_pos c_2) (Eq.trans (if_neg c_3) (Eq.trans (if_pos c_4) (Eq.trans (if_neg c_5) (if_neg c_6)))))))
        · refine lv_iconst (v := (1 : Int32)) hx hb dX0_isRepeated_16 qi_1 ?_
          exact re_z (ty := .boolean) hx hb hr hk (by decide) dX0_isRepeated_17 (ei (Eq.trans (if_neg c_1) (Eq.trans (if_pos c_2) (Eq.trans (if_neg c_3) (if_neg c_4)))))
    · refine lv_iconst (v := (1 : Int32)) hx hb dX0_isRepeated_16 qi_1 ?_
      exact re_z (ty := .boolean) hx hb hr hk (by decide) dX0_isRepeated_17 (ei (Eq.trans (if_neg c_1) (if_neg c_2)))

set_option maxRecDepth 100000 in
set_option maxHeartbeats 4000000 in
theorem c_X0_countRepeated (l : Launch) (G : GT) (a : Nat → Nat) (S : SX) : RO l G yX0_countRepeated cX0_countRepeated 3 (some .int) 3 [.ref (a 0)] (wX G a S) (some (.int (fX0_countRepeated S))) := by
  refine RO.ofW (own := RX0) rfl (plainFor_of_name pnN_RX0) (Nat.le_of_ble_eq_true rfl) ?_
  intro p e s m below meth c C hr hk hE hP ls hl
  have hx := C.1
  have hb := C.2.1
  have hown := C.2.2.2.1
  have hw := C.2.2.2.2
  have hl : lv_has ls 3 [(0, .ref (a 0))] := hl
  refine lv_iconst (v := (0 : Int32)) hx hb dX0_countRepeated_0 qi_0 ?_
  refine lv_istore_n (lv' := [(1, .int (0 : Int32)), (0, .ref (a 0))]) hx hb dX0_countRepeated_1 rfl hl (Nat.le_of_ble_eq_true rfl) rfl (fun ls hl => ?_)
  refine lv_iconst (v := (1 : Int32)) hx hb dX0_countRepeated_2 qi_1 ?_
  refine lv_istore_n (lv' := [(2, .int (1 : Int32)), (1, .int (0 : Int32)), (0, .ref (a 0))]) hx hb dX0_countRepeated_3 rfl hl (Nat.le_of_ble_eq_true rfl) rfl (fun ls hl => ?_)
  refine lv_iload_n hx hb dX0_countRepeated_4 rfl (lv_at hl 0 rfl) ?_
  refine lv_bipush (v := (6 : Int32)) hx hb dX0_countRepeated_5 qb_6 ?_
  refine lv_icmp_ge (tgt := 27) hx hb dX0_countRepeated_7 (by decide) (fun c_x => absurd c_x (by decide)) (fun _ => ?_)
  refine lv_aload_n hx hb dX0_countRepeated_10 rfl (lv_at hl 2 rfl) ?_
  refine lv_iload_n hx hb dX0_countRepeated_11 rfl (lv_at hl 0 rfl) ?_
  refine rcVi (as := [.int (1 : Int32)]) (rest := []) (cl := RX0) C (c_X0_isRepeated l G a S (1 : Int32) (vp_in_lit 1)) F_X0_isRepeated rfl bw278 bw280 bw15 hE hP (rv2 hE.K hP (q0 := 0) rfl) hl.1 dX0_countRepeated_12 ⟨Nat.le_of_ble_eq_true rfl, Nat.le_of_ble_eq_true rfl⟩ rfl (Nat.le_of_ble_eq_true rfl) ⟨Nat.zero_le _, Nat.zero_le _⟩ ?_
  refine lv_if_eq (tgt := 21) hx hb dX0_countRepeated_15 (by decide) (fun c_1 => ?_) (fun c_1 => ?_)
  · refine lv_iinc (v := (2 : Int32)) (lv' := [(2, .int (2 : Int32)), (1, .int (0 : Int32)), (0, .ref (a 0))]) hx hb dX0_countRepeated_21 hl (k := 0) rfl (by first | rfl | decide) (Nat.le_of_ble_eq_true rfl) rfl (fun ls hl => ?_)
    refine lv_goto (tgt := 4) hx hb dX0_countRepeated_24 (by decide) ?_
    refine lv_iload_n hx hb dX0_countRepeated_4 rfl (lv_at hl 0 rfl) ?_
    refine lv_bipush (v := (6 : Int32)) hx hb dX0_countRepeated_5 qb_6 ?_
    refine lv_icmp_ge (tgt := 27) hx hb dX0_countRepeated_7 (by decide) (fun c_x => absurd c_x (by decide)) (fun _ => ?_)
    refine lv_aload_n hx hb dX0_countRepeated_10 rfl (lv_at hl 2 rfl) ?_
    refine lv_iload_n hx hb dX0_countRepeated_11 rfl (lv_at hl 0 rfl) ?_
    refine rcVi (as := [.int (2 : Int32)]) (rest := []) (cl := RX0) C (c_X0_isRepeated l G a S (2 : Int32) (vp_in_lit 2)) F_X0_isRepeated rfl bw278 bw280 bw15 hE hP (rv2 hE.K hP (q0 := 0) rfl) hl.1 dX0_countRepeated_12 ⟨Nat.le_of_ble_eq_true rfl, Nat.le_of_ble_eq_true rfl⟩ rfl (Nat.le_of_ble_eq_true rfl) ⟨Nat.zero_le _, Nat.zero_le _⟩ ?_
    refine lv_if_eq (tgt := 21) hx hb dX0_countRepeated_15 (by decide) (fun c_2 => ?_) (fun c_2 => ?_)
    · refine lv_iinc (v := (3 : Int32)) (lv' := [(2, .int (3 : Int32)), (1, .int (0 : Int32)), (0, .ref (a 0))]) hx hb dX0_countRepeated_21 hl (k := 0) rfl (by first | rfl | decide) (Nat.le_of_ble_eq_true rfl) rfl (fun ls hl => ?_)
      refine lv_goto (tgt := 4) hx hb dX0_countRepeated_24 (by decide) ?_
      refine lv_iload_n hx hb dX0_countRepeated_4 rfl (lv_at hl 0 rfl) ?_
      refine lv_bipush (v := (6 : Int32)) hx hb dX0_countRepeated_5 qb_6 ?_
      refine lv_icmp_ge (tgt := 27) hx hb dX0_countRepeated_7 (by decide) (fun c_x => absurd c_x (by decide)) (fun _ => ?_)
      refine lv_aload_n hx hb dX0_countRepeated_10 rfl (lv_at hl 2 rfl) ?_
      refine lv_iload_n hx hb dX0_countRepeated_11 rfl (lv_at hl 0 rfl) ?_
      refine rcVi (as := [.int (3 : Int32)]) (rest := []) (cl := RX0) C (c_X0_isRepeated l G a S (3 : Int32) (vp_in_lit 3)) F_X0_isRepeated rfl bw278 bw280 bw15 hE hP (rv2 hE.K hP (q0 := 0) rfl) hl.1 dX0_countRepeated_12 ⟨Nat.le_of_ble_eq_true rfl, Nat.le_of_ble_eq_true rfl⟩ rfl (Nat.le_of_ble_eq_true rfl) ⟨Nat.zero_le _, Nat.zero_le _⟩ ?_
      refine lv_if_eq (tgt := 21) hx hb dX0_countRepeated_15 (by decide) (fun c_3 => ?_) (fun c_3 => ?_)
      · refine lv_iinc (v := (4 : Int32)) (lv' := [(2, .int (4 : Int32)), (1, .int (0 : Int32)), (0, .ref (a 0))]) hx hb dX0_countRepeated_21 hl (k := 0) rfl (by first | rfl | decide) (Nat.le_of_ble_eq_true rfl) rfl (fun ls hl => ?_)
        refine lv_goto (tgt := 4) hx hb dX0_countRepeated_24 (by decide) ?_
        refine lv_iload_n hx hb dX0_countRepeated_4 rfl (lv_at hl 0 rfl) ?_
        refine lv_bipush (v := (6 : Int32)) hx hb dX0_countRepeated_5 qb_6 ?_
        refine lv_icmp_ge (tgt := 27) hx hb dX0_countRepeated_7 (by decide) (fun c_x => absurd c_x (by decide)) (fun _ => ?_)
        refine lv_aload_n hx hb dX0_countRepeated_10 rfl (lv_at hl 2 rfl) ?_
        refine lv_iload_n hx hb dX0_countRepeated_11 rfl (lv_at hl 0 rfl) ?_
        refine rcVi (as := [.int (4 : Int32)]) (rest := []) (cl := RX0) C (c_X0_isRepeated l G a S (4 : Int32) (vp_in_lit 4)) F_X0_isRepeated rfl bw278 bw280 bw15 hE hP (rv2 hE.K hP (q0 := 0) rfl) hl.1 dX0_countRepeated_12 ⟨Nat.le_of_ble_eq_true rfl, Nat.le_of_ble_eq_true rfl⟩ rfl (Nat.le_of_ble_eq_true rfl) ⟨Nat.zero_le _, Nat.zero_le _⟩ ?_
        refine lv_if_eq (tgt := 21) hx hb dX0_countRepeated_15 (by decide) (fun c_4 => ?_) (fun c_4 => ?_)
        · refine lv_iinc (v := (5 : Int32)) (lv' := [(2, .int (5 : Int32)), (1, .int (0 : Int32)), (0, .ref (a 0))]) hx hb dX0_countRepeated_21 hl (k := 0) rfl (by first | rfl | decide) (Nat.le_of_ble_eq_true rfl) rfl (fun ls hl => ?_)
          refine lv_goto (tgt := 4) hx hb dX0_countRepeated_24 (by decide) ?_
          refine lv_iload_n hx hb dX0_countRepeated_4 rfl (lv_at hl 0 rfl) ?_
          refine lv_bipush (v := (6 : Int32)) hx hb dX0_countRepeated_5 qb_6 ?_
          refine lv_icmp_ge (tgt := 27) hx hb dX0_countRepeated_7 (by decide) (fun c_x => absurd c_x (by decide)) (fun _ => ?_)
          refine lv_aload_n hx hb dX0_countRepeated_10 rfl (lv_at hl 2 rfl) ?_
          refine lv_iload_n hx hb dX0_countRepeated_11 rfl (lv_at hl 0 rfl) ?_
          refine rcVi (as := [.int (5 : Int32)]) (rest := []) (cl := RX0) C (c_X0_isRepeated l G a S (5 : Int32) (vp_in_lit 5)) F_X0_isRepeated rfl bw278 bw280 bw15 hE hP (rv2 hE.K hP (q0 := 0) rfl) hl.1 dX0_countRepeated_12 ⟨Nat.le_of_ble_eq_true rfl, Nat.le_of_ble_eq_true rfl⟩ rfl (Nat.le_of_ble_eq_true rfl) ⟨Nat.zero_le _, Nat.zero_le _⟩ ?_
          refine lv_if_eq (tgt := 21) hx hb dX0_countRepeated_15 (by decide) (fun c_5 => ?_) (fun c_5 => ?_)
          · refine lv_iinc (v := (6 : Int32)) (lv' := [(2, .int (6 : Int32)), (1, .int (0 : Int32)), (0, .ref (a 0))]) hx hb dX0_countRepeated_21 hl (k := 0) rfl (by first | rfl | decide) (Nat.le_of_ble_eq_true rfl) rfl (fun ls hl => ?_)
            refine lv_goto (tgt := 4) hx hb dX0_countRepeated_24 (by decide) ?_
            refine lv_iload_n hx hb dX0_countRepeated_4 rfl (lv_at hl 0 rfl) ?_
            refine lv_bipush (v := (6 : Int32)) hx hb dX0_countRepeated_5 qb_6 ?_
            refine lv_icmp_ge (tgt := 27) hx hb dX0_countRepeated_7 (by decide) (fun _ => ?_) (fun c_x => absurd (show (6 : Int32) ≤ (6 : Int32) from by decide) c_x)
            refine lv_iload_n hx hb dX0_countRepeated_27 rfl (lv_at hl 1 rfl) ?_
            exact re_i hx hb hr hk dX0_countRepeated_28 (ei (Eq.trans (if_pos c_1) (Eq.trans (if_pos c_2) (Eq.trans (if_pos c_3) (Eq.trans (if_pos c_4) (if_pos c_5))))))
          · refine lv_iinc (v := (1 : Int32)) (lv' := [(1, .int (1 : Int32)), (2, .int (5 : Int32)), (0, .ref (a 0))]) hx hb dX0_countRepeated_18 hl (k := 1) rfl (by first | rfl | decide) (Nat.le_of_ble_eq_true rfl) rfl (fun ls hl => ?_)
            refine lv_iinc (v := (6 : Int32)) (lv' := [(2, .int (6 : Int32)), (1, .int (1 : Int32)), (0, .ref (a 0))]) hx hb dX0_countRepeated_21 hl (k := 1) rfl (by first | rfl | decide) (Nat.le_of_ble_eq_true rfl) rfl (fun ls hl => ?_)
            refine lv_goto (tgt := 4) hx hb dX0_countRepeated_24 (by decide) ?_
            refine lv_iload_n hx hb dX0_countRepeated_4 rfl (lv_at hl 0 rfl) ?_
            refine lv_bipush (v := (6 : Int32)) hx hb dX0_countRepeated_5 qb_6 ?_
            refine lv_icmp_ge (tgt := 27) hx hb dX0_countRepeated_7 (by decide) (fun _ => ?_) (fun c_x => absurd (show (6 : Int32) ≤ (6 : Int32) from by decide) c_x)
            refine lv_iload_n hx hb dX0_countRepeated_27 rfl (lv_at hl 1 rfl) ?_
            exact re_i hx hb hr hk dX0_countRepeated_28 (ei (Eq.trans (if_pos c_1) (Eq.trans (if_pos c_2) (Eq.trans (if_pos c_3) (Eq.trans (if_pos c_4) (if_neg c_5))))))
        · refine lv_iinc (v := (1 : Int32)) (lv' := [(1, .int (1 : Int32)), (2, .int (4 : Int32)), (0, .ref (a 0))]) hx hb dX0_countRepeated_18 hl (k := 1) rfl (by first | rfl | decide) (Nat.le_of_ble_eq_true rfl) rfl (fun ls hl => ?_)
          refine lv_iinc (v := (5 : Int32)) (lv' := [(2, .int (5 : Int32)), (1, .int (1 : Int32)), (0, .ref (a 0))]) hx hb dX0_countRepeated_21 hl (k := 1) rfl (by first | rfl | decide) (Nat.le_of_ble_eq_true rfl) rfl (fun ls hl => ?_)
          refine lv_goto (tgt := 4) hx hb dX0_countRepeated_24 (by decide) ?_
          refine lv_iload_n hx hb dX0_countRepeated_4 rfl (lv_at hl 0 rfl) ?_
          refine lv_bipush (v := (6 : Int32)) hx hb dX0_countRepeated_5 qb_6 ?_
          refine lv_icmp_ge (tgt := 27) hx hb dX0_countRepeated_7 (by decide) (fun c_x => absurd c_x (by decide)) (fun _ => ?_)
          refine lv_aload_n hx hb dX0_countRepeated_10 rfl (lv_at hl 2 rfl) ?_
          refine lv_iload_n hx hb dX0_countRepeated_11 rfl (lv_at hl 0 rfl) ?_
          refine rcVi (as := [.int (5 : Int32)]) (rest := []) (cl := RX0) C (c_X0_isRepeated l G a S (5 : Int32) (vp_in_lit 5)) F_X0_isRepeated rfl bw278 bw280 bw15 hE hP (rv2 hE.K hP (q0 := 0) rfl) hl.1 dX0_countRepeated_12 ⟨Nat.le_of_ble_eq_true rfl, Nat.le_of_ble_eq_true rfl⟩ rfl (Nat.le_of_ble_eq_true rfl) ⟨Nat.zero_le _, Nat.zero_le _⟩ ?_
          refine lv_if_eq (tgt := 21) hx hb dX0_countRepeated_15 (by decide) (fun c_6 => ?_) (fun c_6 => ?_)
          · refine lv_iinc (v := (6 : Int32)) (lv' := [(2, .int (6 : Int32)), (1, .int (1 : Int32)), (0, .ref (a 0))]) hx hb dX0_countRepeated_21 hl (k := 0) rfl (by first | rfl | decide) (Nat.le_of_ble_eq_true rfl) rfl (fun ls hl => ?_)
            refine lv_goto (tgt := 4) hx hb dX0_countRepeated_24 (by decide) ?_
            refine lv_iload_n hx hb dX0_countRepeated_4 rfl (lv_at hl 0 rfl) ?_
            refine lv_bipush (v := (6 : Int32)) hx hb dX0_countRepeated_5 qb_6 ?_
            refine lv_icmp_ge (tgt := 27) hx hb dX0_countRepeated_7 (by decide) (fun _ => ?_) (fun c_x => absurd (show (6 : Int32) ≤ (6 : Int32) from by decide) c_x)
            refine lv_iload_n hx hb dX0_countRepeated_27 rfl (lv_at hl 1 rfl) ?_
            exact re_i hx hb hr hk dX0_countRepeated_28 (ei (Eq.trans (if_pos c_1) (Eq.trans (if_pos c_2) (Eq.trans (if_pos c_3) (Eq.trans (if_neg c_4) (if_pos c_6))))))
          · refine lv_iinc (v := (2 : Int32)) (lv' := [(1, .int (2 : Int32)), (2, .int (5 : Int32)), (0, .ref (a 0))]) hx hb dX0_countRepeated_18 hl (k := 1) rfl (by first | rfl | decide) (Nat.le_of_ble_eq_true rfl) rfl (fun ls hl => ?_)
            refine lv_iinc (v := (6 : Int32)) (lv' := [(2, .int (6 : Int32)), (1, .int (2 : Int32)), (0, .ref (a 0))]) hx hb dX0_countRepeated_21 hl (k := 1) rfl (by first | rfl | decide) (Nat.le_of_ble_eq_true rfl) rfl (fun ls hl => ?_)
            refine lv_goto (tgt := 4) hx hb dX0_countRepeated_24 (by decide) ?_
            refine lv_iload_n hx hb dX0_countRepeated_4 rfl (lv_at hl 0 rfl) ?_
            refine lv_bipush (v := (6 : Int32)) hx hb dX0_countRepeated_5 qb_6 ?_
            refine lv_icmp_ge (tgt := 27) hx hb dX0_countRepeated_7 (by decide) (fun _ => ?_) (fun c_x => absurd (show (6 : Int32) ≤ (6 : Int32) from by decide) c_x)
            refine lv_iload_n hx hb dX0_countRepeated_27 rfl (lv_at hl 1 rfl) ?_
            exact re_i hx hb hr hk dX0_countRepeated_28 (ei (Eq.trans (if_pos c_1) (Eq.trans (if_pos c_2) (Eq.trans (if_pos c_3) (Eq.trans (if_neg c_4) (if_neg c_6))))))
      · refine lv_iinc (v := (1 : Int32)) (lv' := [(1, .int (1 : Int32)), (2, .int (3 : Int32)), (0, .ref (a 0))]) hx hb dX0_countRepeated_18 hl (k := 1) rfl (by first | rfl | decide) (Nat.le_of_ble_eq_true rfl) rfl (fun ls hl => ?_)
        refine lv_iinc (v := (4 : Int32)) (lv' := [(2, .int (4 : Int32)), (1, .int (1 : Int32)), (0, .ref (a 0))]) hx hb dX0_countRepeated_21 hl (k := 1) rfl (by first | rfl | decide) (Nat.le_of_ble_eq_true rfl) rfl (fun ls hl => ?_)
        refine lv_goto (tgt := 4) hx hb dX0_countRepeated_24 (by decide) ?_
        refine lv_iload_n hx hb dX0_countRepeated_4 rfl (lv_at hl 0 rfl) ?_
        refine lv_bipush (v := (6 : Int32)) hx hb dX0_countRepeated_5 qb_6 ?_
        refine lv_icmp_ge (tgt := 27) hx hb dX0_countRepeated_7 (by decide) (fun c_x => absurd c_x (by decide)) (fun _ => ?_)
        refine lv_aload_n hx hb dX0_countRepeated_10 rfl (lv_at hl 2 rfl) ?_
        refine lv_iload_n hx hb dX0_countRepeated_11 rfl (lv_at hl 0 rfl) ?_
        refine rcVi (as := [.int (4 : Int32)]) (rest := []) (cl := RX0) C (c_X0_isRepeated l G a S (4 : Int32) (vp_in_lit 4)) F_X0_isRepeated rfl bw278 bw280 bw15 hE hP (rv2 hE.K hP (q0 := 0) rfl) hl.1 dX0_countRepeated_12 ⟨Nat.le_of_ble_eq_true rfl, Nat.le_of_ble_eq_true rfl⟩ rfl (Nat.le_of_ble_eq_true rfl) ⟨Nat.zero_le _, Nat.zero_le _⟩ ?_
        refine lv_if_eq (tgt := 21) hx hb dX0_countRepeated_15 (by decide) (fun c_7 => ?_) (fun c_7 => ?_)
        · refine lv_iinc (v := (5 : Int32)) (lv' := [(2, .int (5 : Int32)), (1, .int (1 : Int32)), (0, .ref (a 0))]) hx hb dX0_countRepeated_21 hl (k := 0) rfl (by first | rfl | decide) (Nat.le_of_ble_eq_true rfl) rfl (fun ls hl => ?_)
          refine lv_goto (tgt := 4) hx hb dX0_countRepeated_24 (by decide) ?_
          refine lv_iload_n hx hb dX0_countRepeated_4 rfl (lv_at hl 0 rfl) ?_
          refine lv_bipush (v := (6 : Int32)) hx hb dX0_countRepeated_5 qb_6 ?_
          refine lv_icmp_ge (tgt := 27) hx hb dX0_countRepeated_7 (by decide) (fun c_x => absurd c_x (by decide)) (fun _ => ?_)
          refine lv_aload_n hx hb dX0_countRepeated_10 rfl (lv_at hl 2 rfl) ?_
          refine lv_iload_n hx hb dX0_countRepeated_11 rfl (lv_at hl 0 rfl) ?_
          refine rcVi (as := [.int (5 : Int32)]) (rest := []) (cl := RX0) C (c_X0_isRepeated l G a S (5 : Int32) (vp_in_lit 5)) F_X0_isRepeated rfl bw278 bw280 bw15 hE hP (rv2 hE.K hP (q0 := 0) rfl) hl.1 dX0_countRepeated_12 ⟨Nat.le_of_ble_eq_true rfl, Nat.le_of_ble_eq_true rfl⟩ rfl (Nat.le_of_ble_eq_true rfl) ⟨Nat.zero_le _, Nat.zero_le _⟩ ?_
          refine lv_if_eq (tgt := 21) hx hb dX0_countRepeated_15 (by decide) (fun c_8 => ?_) (fun c_8 => ?_)
          · refine lv_iinc (v := (6 : Int32)) (lv' := [(2, .int (6 : Int32)), (1, .int (1 : Int32)), (0, .ref (a 0))]) hx hb dX0_countRepeated_21 hl (k := 0) rfl (by first | rfl | decide) (Nat.le_of_ble_eq_true rfl) rfl (fun ls hl => ?_)
            refine lv_goto (tgt := 4) hx hb dX0_countRepeated_24 (by decide) ?_
            refine lv_iload_n hx hb dX0_countRepeated_4 rfl (lv_at hl 0 rfl) ?_
            refine lv_bipush (v := (6 : Int32)) hx hb dX0_countRepeated_5 qb_6 ?_
            refine lv_icmp_ge (tgt := 27) hx hb dX0_countRepeated_7 (by decide) (fun _ => ?_) (fun c_x => absurd (show (6 : Int32) ≤ (6 : Int32) from by decide) c_x)
            refine lv_iload_n hx hb dX0_countRepeated_27 rfl (lv_at hl 1 rfl) ?_
            exact re_i hx hb hr hk dX0_countRepeated_28 (ei (Eq.trans (if_pos c_1) (Eq.trans (if_pos c_2) (Eq.trans (if_neg c_3) (Eq.trans (if_pos c_7) (if_pos c_8))))))
          · refine lv_iinc (v := (2 : Int32)) (lv' := [(1, .int (2 : Int32)), (2, .int (5 : Int32)), (0, .ref (a 0))]) hx hb dX0_countRepeated_18 hl (k := 1) rfl (by first | rfl | decide) (Nat.le_of_ble_eq_true rfl) rfl (fun ls hl => ?_)
            refine lv_iinc (v := (6 : Int32)) (lv' := [(2, .int (6 : Int32)), (1, .int (2 : Int32)), (0, .ref (a 0))]) hx hb dX0_countRepeated_21 hl (k := 1) rfl (by first | rfl | decide) (Nat.le_of_ble_eq_true rfl) rfl (fun ls hl => ?_)
            refine lv_goto (tgt := 4) hx hb dX0_countRepeated_24 (by decide) ?_
            refine lv_iload_n hx hb dX0_countRepeated_4 rfl (lv_at hl 0 rfl) ?_
            refine lv_bipush (v := (6 : Int32)) hx hb dX0_countRepeated_5 qb_6 ?_
            refine lv_icmp_ge (tgt := 27) hx hb dX0_countRepeated_7 (by decide) (fun _ => ?_) (fun c_x => absurd (show (6 : Int32) ≤ (6 : Int32) from by decide) c_x)
            refine lv_iload_n hx hb dX0_countRepeated_27 rfl (lv_at hl 1 rfl) ?_
            exact re_i hx hb hr hk dX0_countRepeated_28 (ei (Eq.trans (if_pos c_1) (Eq.trans (if_pos c_2) (Eq.trans (if_neg c_3) (Eq.trans (if_pos c_7) (if_neg c_8))))))
        · refine lv_iinc (v := (2 : Int32)) (lv' := [(1, .int (2 : Int32)), (2, .int (4 : Int32)), (0, .ref (a 0))]) hx hb dX0_countRepeated_18 hl (k := 1) rfl (by first | rfl | decide) (Nat.le_of_ble_eq_true rfl) rfl (fun ls hl => ?_)
          refine lv_iinc (v := (5 : Int32)) (lv' := [(2, .int (5 : Int32)), (1, .int (2 : Int32)), (0, .ref (a 0))]) hx hb dX0_countRepeated_21 hl (k := 1) rfl (by first | rfl | decide) (Nat.le_of_ble_eq_true rfl) rfl (fun ls hl => ?_)
          refine lv_goto (tgt := 4) hx hb dX0_countRepeated_24 (by decide) ?_
          refine lv_iload_n hx hb dX0_countRepeated_4 rfl (lv_at hl 0 rfl) ?_
          refine lv_bipush (v := (6 : Int32)) hx hb dX0_countRepeated_5 qb_6 ?_
          refine lv_icmp_ge (tgt := 27) hx hb dX0_countRepeated_7 (by decide) (fun c_x => absurd c_x (by decide)) (fun _ => ?_)
          refine lv_aload_n hx hb dX0_countRepeated_10 rfl (lv_at hl 2 rfl) ?_
          refine lv_iload_n hx hb dX0_countRepeated_11 rfl (lv_at hl 0 rfl) ?_
          refine rcVi (as := [.int (5 : Int32)]) (rest := []) (cl := RX0) C (c_X0_isRepeated l G a S (5 : Int32) (vp_in_lit 5)) F_X0_isRepeated rfl bw278 bw280 bw15 hE hP (rv2 hE.K hP (q0 := 0) rfl) hl.1 dX0_countRepeated_12 ⟨Nat.le_of_ble_eq_true rfl, Nat.le_of_ble_eq_true rfl⟩ rfl (Nat.le_of_ble_eq_true rfl) ⟨Nat.zero_le _, Nat.zero_le _⟩ ?_
          refine lv_if_eq (tgt := 21) hx hb dX0_countRepeated_15 (by decide) (fun c_9 => ?_) (fun c_9 => ?_)
          · refine lv_iinc (v := (6 : Int32)) (lv' := [(2, .int (6 : Int32)), (1, .int (2 : Int32)), (0, .ref (a 0))]) hx hb dX0_countRepeated_21 hl (k := 0) rfl (by first | rfl | decide) (Nat.le_of_ble_eq_true rfl) rfl (fun ls hl => ?_)
            refine lv_goto (tgt := 4) hx hb dX0_countRepeated_24 (by decide) ?_
            refine lv_iload_n hx hb dX0_countRepeated_4 rfl (lv_at hl 0 rfl) ?_
            refine lv_bipush (v := (6 : Int32)) hx hb dX0_countRepeated_5 qb_6 ?_
            refine lv_icmp_ge (tgt := 27) hx hb dX0_countRepeated_7 (by decide) (fun _ => ?_) (fun c_x => absurd (show (6 : Int32) ≤ (6 : Int32) from by decide) c_x)
            refine lv_iload_n hx hb dX0_countRepeated_27 rfl (lv_at hl 1 rfl) ?_
            exact re_i hx hb hr hk dX0_countRepeated_28 (ei (Eq.trans (if_pos c_1) (Eq.trans (if_pos c_2) (Eq.trans (if_neg c_3) (Eq.trans (if_neg c_7) (if_pos c_9))))))
          · refine lv_iinc (v := (3 : Int32)) (lv' := [(1, .int (3 : Int32)), (2, .int (5 : Int32)), (0, .ref (a 0))]) hx hb dX0_countRepeated_18 hl (k := 1) rfl (by first | rfl | decide) (Nat.le_of_ble_eq_true rfl) rfl (fun ls hl => ?_)
            refine lv_iinc (v := (6 : Int32)) (lv' := [(2, .int (6 : Int32)), (1, .int (3 : Int32)), (0, .ref (a 0))]) hx hb dX0_countRepeated_21 hl (k := 1) rfl (by first | rfl | decide) (Nat.le_of_ble_eq_true rfl) rfl (fun ls hl => ?_)
            refine lv_goto (tgt := 4) hx hb dX0_countRepeated_24 (by decide) ?_
            refine lv_iload_n hx hb dX0_countRepeated_4 rfl (lv_at hl 0 rfl) ?_
            refine lv_bipush (v := (6 : Int32)) hx hb dX0_countRepeated_5 qb_6 ?_
            refine lv_icmp_ge (tgt := 27) hx hb dX0_countRepeated_7 (by decide) (fun _ => ?_) (fun c_x => absurd (show (6 : Int32) ≤ (6 : Int32) from by decide) c_x)
            refine lv_iload_n hx hb dX0_countRepeated_27 rfl (lv_at hl 1 rfl) ?_
            exact re_i hx hb hr hk dX0_countRepeated_28 (ei (Eq.trans (if_pos c_1) (Eq.trans (if_pos c_2) (Eq.trans (if_neg c_3) (Eq.trans (if_neg c_7) (if_neg c_9))))))
    · refine lv_iinc (v := (1 : Int32)) (lv' := [(1, .int (1 : Int32)), (2, .int (2 : Int32)), (0, .ref (a 0))]) hx hb dX0_countRepeated_18 hl (k := 1) rfl (by first | rfl | decide) (Nat.le_of_ble_eq_true rfl) rfl (fun ls hl => ?_)
      refine lv_iinc (v := (3 : Int32)) (lv' := [(2, .int (3 : Int32)), (1, .int (1 : Int32)), (0, .ref (a 0))]) hx hb dX0_countRepeated_21 hl (k := 1) rfl (by first | rfl | decide) (Nat.le_of_ble_eq_true rfl) rfl (fun ls hl => ?_)
      refine lv_goto (tgt := 4) hx hb dX0_countRepeated_24 (by decide) ?_
      refine lv_iload_n hx hb dX0_countRepeated_4 rfl (lv_at hl 0 rfl) ?_
      refine lv_bipush (v := (6 : Int32)) hx hb dX0_countRepeated_5 qb_6 ?_
      refine lv_icmp_ge (tgt := 27) hx hb dX0_countRepeated_7 (by decide) (fun c_x => absurd c_x (by decide)) (fun _ => ?_)
      refine lv_aload_n hx hb dX0_countRepeated_10 rfl (lv_at hl 2 rfl) ?_
      refine lv_iload_n hx hb dX0_countRepeated_11 rfl (lv_at hl 0 rfl) ?_
      refine rcVi (as := [.int (3 : Int32)]) (rest := []) (cl := RX0) C (c_X0_isRepeated l G a S (3 : Int32) (vp_in_lit 3)) F_X0_isRepeated rfl bw278 bw280 bw15 hE hP (rv2 hE.K hP (q0 := 0) rfl) hl.1 dX0_countRepeated_12 ⟨Nat.le_of_ble_eq_true rfl, Nat.le_of_ble_eq_true rfl⟩ rfl (Nat.le_of_ble_eq_true rfl) ⟨Nat.zero_le _, Nat.zero_le _⟩ ?_
      refine lv_if_eq (tgt := 21) hx hb dX0_countRepeated_15 (by decide) (fun c_10 => ?_) (fun c_10 => ?_)
      · refine lv_iinc (v := (4 : Int32)) (lv' := [(2, .int (4 : Int32)), (1, .int (1 : Int32)), (0, .ref (a 0))]) hx hb dX0_countRepeated_21 hl (k := 0) rfl (by first | rfl | decide) (Nat.le_of_ble_eq_true rfl) rfl (fun ls hl => ?_)
        refine lv_goto (tgt := 4) hx hb dX0_countRepeated_24 (by decide) ?_
        refine lv_iload_n hx hb dX0_countRepeated_4 rfl (lv_at hl 0 rfl) ?_
        refine lv_bipush (v := (6 : Int32)) hx hb dX0_countRepeated_5 qb_6 ?_
        refine lv_icmp_ge (tgt := 27) hx hb dX0_countRepeated_7 (by decide) (fun c_x => absurd c_x (by decide)) (fun _ => ?_)
        refine lv_aload_n hx hb dX0_countRepeated_10 rfl (lv_at hl 2 rfl) ?_
        refine lv_iload_n hx hb dX0_countRepeated_11 rfl (lv_at hl 0 rfl) ?_
        refine rcVi (as := [.int (4 : Int32)]) (rest := []) (cl := RX0) C (c_X0_isRepeated l G a S (4 : Int32) (vp_in_lit 4)) F_X0_isRepeated rfl bw278 bw280 bw15 hE hP (rv2 hE.K hP (q0 := 0) rfl) hl.1 dX0_countRepeated_12 ⟨Nat.le_of_ble_eq_true rfl, Nat.le_of_ble_eq_true rfl⟩ rfl (Nat.le_of_ble_eq_true rfl) ⟨Nat.zero_le _, Nat.zero_le _⟩ ?_
        refine lv_if_eq (tgt := 21) hx hb dX0_countRepeated_15 (by decide) (fun c_11 => ?_) (fun c_11 => ?_)
        · refine lv_iinc (v := (5 : Int32)) (lv' := [(2, .int (5 : Int32)), (1, .int (1 : Int32)), (0, .ref (a 0))]) hx hb dX0_countRepeated_21 hl (k := 0) rfl (by first | rfl | decide) (Nat.le_of_ble_eq_true rfl) rfl (fun ls hl => ?_)
          refine lv_goto (tgt := 4) hx hb dX0_countRepeated_24 (by decide) ?_
          refine lv_iload_n hx hb dX0_countRepeated_4 rfl (lv_at hl 0 rfl) ?_
          refine lv_bipush (v := (6 : Int32)) hx hb dX0_countRepeated_5 qb_6 ?_
          refine lv_icmp_ge (tgt := 27) hx hb dX0_countRepeated_7 (by decide) (fun c_x => absurd c_x (by decide)) (fun _ => ?_)
          refine lv_aload_n hx hb dX0_countRepeated_10 rfl (lv_at hl 2 rfl) ?_
          refine lv_iload_n hx hb dX0_countRepeated_11 rfl (lv_at hl 0 rfl) ?_
          refine rcVi (as := [.int (5 : Int32)]) (rest := []) (cl := RX0) C (c_X0_isRepeated l G a S (5 : Int32) (vp_in_lit 5)) F_X0_isRepeated rfl bw278 bw280 bw15 hE hP (rv2 hE.K hP (q0 := 0) rfl) hl.1 dX0_countRepeated_12 ⟨Nat.le_of_ble_eq_true rfl, Nat.le_of_ble_eq_true rfl⟩ rfl (Nat.le_of_ble_eq_true rfl) ⟨Nat.zero_le _, Nat.zero_le _⟩ ?_
          refine lv_if_eq (tgt := 21) hx hb dX0_countRepeated_15 (by decide) (fun c_12 => ?_) (fun c_12 => ?_)
          · refine lv_iinc (v := (6 : Int32)) (lv' := [(2, .int (6 : Int32)), (1, .int (1 : Int32)), (0, .ref (a 0))]) hx hb dX0_countRepeated_21 hl (k := 0) rfl (by first | rfl | decide) (Nat.le_of_ble_eq_true rfl) rfl (fun ls hl => ?_)
            refine lv_goto (tgt := 4) hx hb dX0_countRepeated_24 (by decide) ?_
            refine lv_iload_n hx hb dX0_countRepeated_4 rfl (lv_at hl 0 rfl) ?_
            refine lv_bipush (v := (6 : Int32)) hx hb dX0_countRepeated_5 qb_6 ?_
            refine lv_icmp_ge (tgt := 27) hx hb dX0_countRepeated_7 (by decide) (fun _ => ?_) (fun c_x => absurd (show (6 : Int32) ≤ (6 : Int32) from by decide) c_x)
            refine lv_iload_n hx hb dX0_countRepeated_27 rfl (lv_at hl 1 rfl) ?_
            exact re_i hx hb hr hk dX0_countRepeated_28 (ei (Eq.trans (if_pos c_1) (Eq.trans (if_neg c_2) (Eq.trans (if_pos c_10) (Eq.trans (if_pos c_11) (if_pos c_12))))))
          · refine lv_iinc (v := (2 : Int32)) (lv' := [(1, .int (2 : Int32)), (2, .int (5 : Int32)), (0, .ref (a 0))]) hx hb dX0_countRepeated_18 hl (k := 1) rfl (by first | rfl | decide) (Nat.le_of_ble_eq_true rfl) rfl (fun ls hl => ?_)
            refine lv_iinc (v := (6 : Int32)) (lv' := [(2, .int (6 : Int32)), (1, .int (2 : Int32)), (0, .ref (a 0))]) hx hb dX0_countRepeated_21 hl (k := 1) rfl (by first | rfl | decide) (Nat.le_of_ble_eq_true rfl) rfl (fun ls hl => ?_)
            refine lv_goto (tgt := 4) hx hb dX0_countRepeated_24 (by decide) ?_
            refine lv_iload_n hx hb dX0_countRepeated_4 rfl (lv_at hl 0 rfl) ?_
            refine lv_bipush (v := (6 : Int32)) hx hb dX0_countRepeated_5 qb_6 ?_
            refine lv_icmp_ge (tgt := 27) hx hb dX0_countRepeated_7 (by decide) (fun _ => ?_) (fun c_x => absurd (show (6 : Int32) ≤ (6 : Int32) from by decide) c_x)
            refine lv_iload_n hx hb dX0_countRepeated_27 rfl (lv_at hl 1 rfl) ?_
            exact re_i hx hb hr hk dX0_countRepeated_28 (ei (Eq.trans (if_pos c_1) (Eq.trans (if_neg c_2) (Eq.trans (if_pos c_10) (Eq.trans (if_pos c_11) (if_neg c_12))))))
        · refine lv_iinc (v := (2 : Int32)) (lv' := [(1, .int (2 : Int32)), (2, .int (4 : Int32)), (0, .ref (a 0))]) hx hb dX0_countRepeated_18 hl (k := 1) rfl (by first | rfl | decide) (Nat.le_of_ble_eq_true rfl) rfl (fun ls hl => ?_)
          refine lv_iinc (v := (5 : Int32)) (lv' := [(2, .int (5 : Int32)), (1, .int (2 : Int32)), (0, .ref (a 0))]) hx hb dX0_countRepeated_21 hl (k := 1) rfl (by first | rfl | decide) (Nat.le_of_ble_eq_true rfl) rfl (fun ls hl => ?_)
          refine lv_goto (tgt := 4) hx hb dX0_countRepeated_24 (by decide) ?_
          refine lv_iload_n hx hb dX0_countRepeated_4 rfl (lv_at hl 0 rfl) ?_
          refine lv_bipush (v := (6 : Int32)) hx hb dX0_countRepeated_5 qb_6 ?_
          refine lv_icmp_ge (tgt := 27) hx hb dX0_countRepeated_7 (by decide) (fun c_x => absurd c_x (by decide)) (fun _ => ?_)
          refine lv_aload_n hx hb dX0_countRepeated_10 rfl (lv_at hl 2 rfl) ?_
          refine lv_iload_n hx hb dX0_countRepeated_11 rfl (lv_at hl 0 rfl) ?_
          refine rcVi (as := [.int (5 : Int32)]) (rest := []) (cl := RX0) C (c_X0_isRepeated l G a S (5 : Int32) (vp_in_lit 5)) F_X0_isRepeated rfl bw278 bw280 bw15 hE hP (rv2 hE.K hP (q0 := 0) rfl) hl.1 dX0_countRepeated_12 ⟨Nat.le_of_ble_eq_true rfl, Nat.le_of_ble_eq_true rfl⟩ rfl (Nat.le_of_ble_eq_true rfl) ⟨Nat.zero_le _, Nat.zero_le _⟩ ?_
          refine lv_if_eq (tgt := 21) hx hb dX0_countRepeated_15 (by decide) (fun c_13 => ?_) (fun c_13 => ?_)
          · refine lv_iinc (v := (6 : Int32)) (lv' := [(2, .int (6 : Int32)), (1, .int (2 : Int32)), (0, .ref (a 0))]) hx hb dX0_countRepeated_21 hl (k := 0) rfl (by first | rfl | decide) (Nat.le_of_ble_eq_true rfl) rfl (fun ls hl => ?_)
            refine lv_goto (tgt := 4) hx hb dX0_countRepeated_24 (by decide) ?_
            refine lv_iload_n hx hb dX0_countRepeated_4 rfl (lv_at hl 0 rfl) ?_
            refine lv_bipush (v := (6 : Int32)) hx hb dX0_countRepeated_5 qb_6 ?_
            refine lv_icmp_ge (tgt := 27) hx hb dX0_countRepeated_7 (by decide) (fun _ => ?_) (fun c_x => absurd (show (6 : Int32) ≤ (6 : Int32) from by decide) c_x)
            refine lv_iload_n hx hb dX0_countRepeated_27 rfl (lv_at hl 1 rfl) ?_
            exact re_i hx hb hr hk dX0_countRepeated_28 (ei (Eq.trans (if_pos c_1) (Eq.trans (if_neg c_2) (Eq.trans (if_pos c_10) (Eq.trans (if_neg c_11) (if_pos c_13))))))
          · refine lv_iinc (v := (3 : Int32)) (lv' := [(1, .int (3 : Int32)), (2, .int (5 : Int32)), (0, .ref (a 0))]) hx hb dX0_countRepeated_18 hl (k := 1) rfl (by first | rfl | decide) (Nat.le_of_ble_eq_true rfl) rfl (fun ls hl => ?_)
            refine lv_iinc (v := (6 : Int32)) (lv' := [(2, .int (6 : Int32)), (1, .int (3 : Int32)), (0, .ref (a 0))]) hx hb dX0_countRepeated_21 hl (k := 1) rfl (by first | rfl | decide) (Nat.le_of_ble_eq_true rfl) rfl (fun ls hl => ?_)
            refine lv_goto (tgt := 4) hx hb dX0_countRepeated_24 (by decide) ?_
            refine lv_iload_n hx hb dX0_countRepeated_4 rfl (lv_at hl 0 rfl) ?_
            refine lv_bipush (v := (6 : Int32)) hx hb dX0_countRepeated_5 qb_6 ?_
            refine lv_icmp_ge (tgt := 27) hx hb dX0_countRepeated_7 (by decide) (fun _ => ?_) (fun c_x => absurd (show (6 : Int32) ≤ (6 : Int32) from by decide) c_x)
            refine lv_iload_n hx hb dX0_countRepeated_27 rfl (lv_at hl 1 rfl) ?_
            exact re_i hx hb hr hk dX0_countRepeated_28 (ei (Eq.trans (if_pos c_1) (Eq.trans (if_neg c_2) (Eq.trans (if_pos c_10) (Eq.trans (if_neg c_11) (if_neg c_13))))))
      · refine lv_iinc (v := (2 : Int32)) (lv' := [(1, .int (2 : Int32)), (2, .int (3 : Int32)), (0, .ref (a 0))]) hx hb dX0_countRepeated_18 hl (k := 1) rfl (by first | rfl | decide) (Nat.le_of_ble_eq_true rfl) rfl (fun ls hl => ?_)
        refine lv_iinc (v := (4 : Int32)) (lv' := [(2, .int (4 : Int32)), (1, .int (2 : Int32)), (0, .ref (a 0))]) hx hb dX0_countRepeated_21 hl (k := 1) rfl (by first | rfl | decide) (Nat.le_of_ble_eq_true rfl) rfl (fun ls hl => ?_)
        refine lv_goto (tgt := 4) hx hb dX0_countRepeated_24 (by decide) ?_
        refine lv_iload_n hx hb dX0_countRepeated_4 rfl (lv_at hl 0 rfl) ?_
        refine lv_bipush (v := (6 : Int32)) hx hb dX0_countRepeated_5 qb_6 ?_
        refine lv_icmp_ge (tgt := 27) hx hb dX0_countRepeated_7 (by decide) (fun c_x => absurd c_x (by decide)) (fun _ => ?_)
        refine lv_aload_n hx hb dX0_countRepeated_10 rfl (lv_at hl 2 rfl) ?_
        refine lv_iload_n hx hb dX0_countRepeated_11 rfl (lv_at hl 0 rfl) ?_
        refine rcVi (as := [.int (4 : Int32)]) (rest := []) (cl := RX0) C (c_X0_isRepeated l G a S (4 : Int32) (vp_in_lit 4)) F_X0_isRepeated rfl bw278 bw280 bw15 hE hP (rv2 hE.K hP (q0 := 0) rfl) hl.1 dX0_countRepeated_12 ⟨Nat.le_of_ble_eq_true rfl, Nat.le_of_ble_eq_true rfl⟩ rfl (Nat.le_of_ble_eq_true rfl) ⟨Nat.zero_le _, Nat.zero_le _⟩ ?_
        refine lv_if_eq (tgt := 21) hx hb dX0_countRepeated_15 (by decide) (fun c_14 => ?_) (fun c_14 => ?_)
        · refine lv_iinc (v := (5 : Int32)) (lv' := [(2, .int (5 : Int32)), (1, .int (2 : Int32)), (0, .ref (a 0))]) hx hb dX0_countRepeated_21 hl (k := 0) rfl (by first | rfl | decide) (Nat.le_of_ble_eq_true rfl) rfl (fun ls hl => ?_)
          refine lv_goto (tgt := 4) hx hb dX0_countRepeated_24 (by decide) ?_
          refine lv_iload_n hx hb dX0_countRepeated_4 rfl (lv_at hl 0 rfl) ?_
          refine lv_bipush (v := (6 : Int32)) hx hb dX0_countRepeated_5 qb_6 ?_
          refine lv_icmp_ge (tgt := 27) hx hb dX0_countRepeated_7 (by decide) (fun c_x => absurd c_x (by decide)) (fun _ => ?_)
          refine lv_aload_n hx hb dX0_countRepeated_10 rfl (lv_at hl 2 rfl) ?_
          refine lv_iload_n hx hb dX0_countRepeated_11 rfl (lv_at hl 0 rfl) ?_
          refine rcVi (as := [.int (5 : Int32)]) (rest := []) (cl := RX0) C (c_X0_isRepeated l G a S (5 : Int32) (vp_in_lit 5)) F_X0_isRepeated rfl bw278 bw280 bw15 hE hP (rv2 hE.K hP (q0 := 0) rfl) hl.1 dX0_countRepeated_12 ⟨Nat.le_of_ble_eq_true rfl, Nat.le_of_ble_eq_true rfl⟩ rfl (Nat.le_of_ble_eq_true rfl) ⟨Nat.zero_le _, Nat.zero_le _⟩ ?_
          refine lv_if_eq (tgt := 21) hx hb dX0_countRepeated_15 (by decide) (fun c_15 => ?_) (fun c_15 => ?_)
          · refine lv_iinc (v := (6 : Int32)) (lv' := [(2, .int (6 : Int32)), (1, .int (2 : Int32)), (0, .ref (a 0))]) hx hb dX0_countRepeated_21 hl (k := 0) rfl (by first | rfl | decide) (Nat.le_of_ble_eq_true rfl) rfl (fun ls hl => ?_)
            refine lv_goto (tgt := 4) hx hb dX0_countRepeated_24 (by decide) ?_
            refine lv_iload_n hx hb dX0_countRepeated_4 rfl (lv_at hl 0 rfl) ?_
            refine lv_bipush (v := (6 : Int32)) hx hb dX0_countRepeated_5 qb_6 ?_
            refine lv_icmp_ge (tgt := 27) hx hb dX0_countRepeated_7 (by decide) (fun _ => ?_) (fun c_x => absurd (show (6 : Int32) ≤ (6 : Int32) from by decide) c_x)
            refine lv_iload_n hx hb dX0_countRepeated_27 rfl (lv_at hl 1 rfl) ?_
            exact re_i hx hb hr hk dX0_countRepeated_28 (ei (Eq.trans (if_pos c_1) (Eq.trans (if_neg c_2) (Eq.trans (if_neg c_10) (Eq.trans (if_pos c_14) (if_pos c_15))))))
          · refine lv_iinc (v := (3 : Int32)) (lv' := [(1, .int (3 : Int32)), (2, .int (5 : Int32)), (0, .ref (a 0))]) hx hb dX0_countRepeated_18 hl (k := 1) rfl (by first | rfl | decide) (Nat.le_of_ble_eq_true rfl) rfl (fun ls hl => ?_)
            refine lv_iinc (v := (6 : Int32)) (lv' := [(2, .int (6 : Int32)), (1, .int (3 : Int32)), (0, .ref (a 0))]) hx hb dX0_countRepeated_21 hl (k := 1) rfl (by first | rfl | decide) (Nat.le_of_ble_eq_true rfl) rfl (fun ls hl => ?_)
            refine lv_goto (tgt := 4) hx hb dX0_countRepeated_24 (by decide) ?_
            refine lv_iload_n hx hb dX0_countRepeated_4 rfl (lv_at hl 0 rfl) ?_
            refine lv_bipush (v := (6 : Int32)) hx hb dX0_countRepeated_5 qb_6 ?_
            refine lv_icmp_ge (tgt := 27) hx hb dX0_countRepeated_7 (by decide) (fun _ => ?_) (fun c_x => absurd (show (6 : Int32) ≤ (6 : Int32) from by decide) c_x)
            refine lv_iload_n hx hb dX0_countRepeated_27 rfl (lv_at hl 1 rfl) ?_
            exact re_i hx hb hr hk dX0_countRepeated_28 (ei (Eq.trans (if_pos c_1) (Eq.trans (if_neg c_2) (Eq.trans (if_neg c_10) (Eq.trans (if_pos c_14) (if_neg c_15))))))
        · refine lv_iinc (v := (3 : Int32)) (lv' := [(1, .int (3 : Int32)), (2, .int (4 : Int32)), (0, .ref (a 0))]) hx hb dX0_countRepeated_18 hl (k := 1) rfl (by first | rfl | decide) (Nat.le_of_ble_eq_true rfl) rfl (fun ls hl => ?_)
          refine lv_iinc (v := (5 : Int32)) (lv' := [(2, .int (5 : Int32)), (1, .int (3 : Int32)), (0, .ref (a 0))]) hx hb dX0_countRepeated_21 hl (k := 1) rfl (by first | rfl | decide) (Nat.le_of_ble_eq_true rfl) rfl (fun ls hl => ?_)
          refine lv_goto (tgt := 4) hx hb dX0_countRepeated_24 (by decide) ?_
          refine lv_iload_n hx hb dX0_countRepeated_4 rfl (lv_at hl 0 rfl) ?_
          refine lv_bipush (v := (6 : Int32)) hx hb dX0_countRepeated_5 qb_6 ?_
          refine lv_icmp_ge (tgt := 27) hx hb dX0_countRepeated_7 (by decide) (fun c_x => absurd c_x (by decide)) (fun _ => ?_)
          refine lv_aload_n hx hb dX0_countRepeated_10 rfl (lv_at hl 2 rfl) ?_
          refine lv_iload_n hx hb dX0_countRepeated_11 rfl (lv_at hl 0 rfl) ?_
          refine rcVi (as := [.int (5 : Int32)]) (rest := []) (cl := RX0) C (c_X0_isRepeated l G a S (5 : Int32) (vp_in_lit 5)) F_X0_isRepeated rfl bw278 bw280 bw15 hE hP (rv2 hE.K hP (q0 := 0) rfl) hl.1 dX0_countRepeated_12 ⟨Nat.le_of_ble_eq_true rfl, Nat.le_of_ble_eq_true rfl⟩ rfl (Nat.le_of_ble_eq_true rfl) ⟨Nat.zero_le _, Nat.zero_le _⟩ ?_
          refine lv_if_eq (tgt := 21) hx hb dX0_countRepeated_15 (by decide) (fun c_16 => ?_) (fun c_16 => ?_)
          · refine lv_iinc (v := (6 : Int32)) (lv' := [(2, .int (6 : Int32)), (1, .int (3 : Int32)), (0, .ref (a 0))]) hx hb dX0_countRepeated_21 hl (k := 0) rfl (by first | rfl | decide) (Nat.le_of_ble_eq_true rfl) rfl (fun ls hl => ?_)
            refine lv_goto (tgt := 4) hx hb dX0_countRepeated_24 (by decide) ?_
            refine lv_iload_n hx hb dX0_countRepeated_4 rfl (lv_at hl 0 rfl) ?_
            refine lv_bipush (v := (6 : Int32)) hx hb dX0_countRepeated_5 qb_6 ?_
            refine lv_icmp_ge (tgt := 27) hx hb dX0_countRepeated_7 (by decide) (fun _ => ?_) (fun c_x => absurd (show (6 : Int32) ≤ (6 : Int32) from by decide) c_x)
            refine lv_iload_n hx hb dX0_countRepeated_27 rfl (lv_at hl 1 rfl) ?_
            exact re_i hx hb hr hk dX0_countRepeated_28 (ei (Eq.trans (if_pos c_1) (Eq.trans (if_neg c_2) (Eq.trans (if_neg c_10) (Eq.trans (if_neg c_14) (if_pos c_16))))))
          · refine lv_iinc (v := (4 : Int32)) (lv' := [(1, .int (4 : Int32)), (2, .int (5 : Int32)), (0, .ref (a 0))]) hx hb dX0_countRepeated_18 hl (k := 1) rfl (by first | rfl | decide) (Nat.le_of_ble_eq_true rfl) rfl (fun ls hl => ?_)
            refine lv_iinc (v := (6 : Int32)) (lv' := [(2, .int (6 : Int32)), (1, .int (4 : Int32)), (0, .ref (a 0))]) hx hb dX0_countRepeated_21 hl (k := 1) rfl (by first | rfl | decide) (Nat.le_of_ble_eq_true rfl) rfl (fun ls hl => ?_)
            refine lv_goto (tgt := 4) hx hb dX0_countRepeated_24 (by decide) ?_
            refine lv_iload_n hx hb dX0_countRepeated_4 rfl (lv_at hl 0 rfl) ?_
            refine lv_bipush (v := (6 : Int32)) hx hb dX0_countRepeated_5 qb_6 ?_
            refine lv_icmp_ge (tgt := 27) hx hb dX0_countRepeated_7 (by decide) (fun _ => ?_) (fun c_x => absurd (show (6 : Int32) ≤ (6 : Int32) from by decide) c_x)
            refine lv_iload_n hx hb dX0_countRepeated_27 rfl (lv_at hl 1 rfl) ?_
            exact re_i hx hb hr hk dX0_countRepeated_28 (ei (Eq.trans (if_pos c_1) (Eq.trans (if_neg c_2) (Eq.trans (if_neg c_10) (Eq.trans (if_neg c_14) (if_neg c_16))))))
  · refine lv_iinc (v := (1 : Int32)) (lv' := [(1, .int (1 : Int32)), (2, .int (1 : Int32)), (0, .ref (a 0))]) hx hb dX0_countRepeated_18 hl (k := 1) rfl (by first | rfl | decide) (Nat.le_of_ble_eq_true rfl) rfl (fun ls hl => ?_)
    refine lv_iinc (v := (2 : Int32)) (lv' := [(2, .int (2 : Int32)), (1, .int (1 : Int32)), (0, .ref (a 0))]) hx hb dX0_countRepeated_21 hl (k := 1) rfl (by first | rfl | decide) (Nat.le_of_ble_eq_true rfl) rfl (fun ls hl => ?_)
    refine lv_goto (tgt := 4) hx hb dX0_countRepeated_24 (by decide) ?_
    refine lv_iload_n hx hb dX0_countRepeated_4 rfl (lv_at hl 0 rfl) ?_
    refine lv_bipush (v := (6 : Int32)) hx hb dX0_countRepeated_5 qb_6 ?_
    refine lv_icmp_ge (tgt := 27) hx hb dX0_countRepeated_7 (by decide) (fun c_x => absurd c_x (by decide)) (fun _ => ?_)
    refine lv_aload_n hx hb dX0_countRepeated_10 rfl (lv_at hl 2 rfl) ?_
    refine lv_iload_n hx hb dX0_countRepeated_11 rfl (lv_at hl 0 rfl) ?_
    refine rcVi (as := [.int (2 : Int32)]) (rest := []) (cl := RX0) C (c_X0_isRepeated l G a S (2 : Int32) (vp_in_lit 2)) F_X0_isRepeated rfl bw278 bw280 bw15 hE hP (rv2 hE.K hP (q0 := 0) rfl) hl.1 dX0_countRepeated_12 ⟨Nat.le_of_ble_eq_true rfl, Nat.le_of_ble_eq_true rfl⟩ rfl (Nat.le_of_ble_eq_true rfl) ⟨Nat.zero_le _, Nat.zero_le _⟩ ?_
    refine lv_if_eq (tgt := 21) hx hb dX0_countRepeated_15 (by decide) (fun c_17 => ?_) (fun c_17 => ?_)
    · refine lv_iinc (v := (3 : Int32)) (lv' := [(2, .int (3 : Int32)), (1, .int (1 : Int32)), (0, .ref (a 0))]) hx hb dX0_countRepeated_21 hl (k := 0) rfl (by first | rfl | decide) (Nat.le_of_ble_eq_true rfl) rfl (fun ls hl => ?_)
      refine lv_goto (tgt := 4) hx hb dX0_countRepeated_24 (by decide) ?_
      refine lv_iload_n hx hb dX0_countRepeated_4 rfl (lv_at hl 0 rfl) ?_
      refine lv_bipush (v := (6 : Int32)) hx hb dX0_countRepeated_5 qb_6 ?_
      refine lv_icmp_ge (tgt := 27) hx hb dX0_countRepeated_7 (by decide) (fun c_x => absurd c_x (by decide)) (fun _ => ?_)
      refine lv_aload_n hx hb dX0_countRepeated_10 rfl (lv_at hl 2 rfl) ?_
      refine lv_iload_n hx hb dX0_countRepeated_11 rfl (lv_at hl 0 rfl) ?_
      refine rcVi (as := [.int (3 : Int32)]) (rest := []) (cl := RX0) C (c_X0_isRepeated l G a S (3 : Int32) (vp_in_lit 3)) F_X0_isRepeated rfl bw278 bw280 bw15 hE hP (rv2 hE.K hP (q0 := 0) rfl) hl.1 dX0_countRepeated_12 ⟨Nat.le_of_ble_eq_true rfl, Nat.le_of_ble_eq_true rfl⟩ rfl (Nat.le_of_ble_eq_true rfl) ⟨Nat.zero_le _, Nat.zero_le _⟩ ?_
      refine lv_if_eq (tgt := 21) hx hb dX0_countRepeated_15 (by decide) (fun c_18 => ?_) (fun c_18 => ?_)
      · refine lv_iinc (v := (4 : Int32)) (lv' := [(2, .int (4 : Int32)), (1, .int (1 : Int32)), (0, .ref (a 0))]) hx hb dX0_countRepeated_21 hl (k := 0) rfl (by first | rfl | decide) (Nat.le_of_ble_eq_true rfl) rfl (fun ls hl => ?_)
        refine lv_goto (tgt := 4) hx hb dX0_countRepeated_24 (by decide) ?_
        refine lv_iload_n hx hb dX0_countRepeated_4 rfl (lv_at hl 0 rfl) ?_
        refine lv_bipush (v := (6 : Int32)) hx hb dX0_countRepeated_5 qb_6 ?_
        refine lv_icmp_ge (tgt := 27) hx hb dX0_countRepeated_7 (by decide) (fun c_x => absurd c_x (by decide)) (fun _ => ?_)
        refine lv_aload_n hx hb dX0_countRepeated_10 rfl (lv_at hl 2 rfl) ?_
        refine lv_iload_n hx hb dX0_countRepeated_11 rfl (lv_at hl 0 rfl) ?_
        refine rcVi (as := [.int (4 : Int32)]) (rest := []) (cl := RX0) C (c_X0_isRepeated l G a S (4 : Int32) (vp_in_lit 4)) F_X0_isRepeated rfl bw278 bw280 bw15 hE hP (rv2 hE.K hP (q0 := 0) rfl) hl.1 dX0_countRepeated_12 ⟨Nat.le_of_ble_eq_true rfl, Nat.le_of_ble_eq_true rfl⟩ rfl (Nat.le_of_ble_eq_true rfl) ⟨Nat.zero_le _, Nat.zero_le _⟩ ?_
        refine lv_if_eq (tgt := 21) hx hb dX0_countRepeated_15 (by decide) (fun c_19 => ?_) (fun c_19 => ?_)
        · refine lv_iinc (v := (5 : Int32)) (lv' := [(2, .int (5 : Int32)), (1, .int (1 : Int32)), (0, .ref (a 0))]) hx hb dX0_countRepeated_21 hl (k := 0) rfl (by first | rfl | decide) (Nat.le_of_ble_eq_true rfl) rfl (fun ls hl => ?_)
          refine lv_goto (tgt := 4) hx hb dX0_countRepeated_24 (by decide) ?_
          refine lv_iload_n hx hb dX0_countRepeated_4 rfl (lv_at hl 0 rfl) ?_
          refine lv_bipush (v := (6 : Int32)) hx hb dX0_countRepeated_5 qb_6 ?_
          refine lv_icmp_ge (tgt := 27) hx hb dX0_countRepeated_7 (by decide) (fun c_x => absurd c_x (by decide)) (fun _ => ?_)
          refine lv_aload_n hx hb dX0_countRepeated_10 rfl (lv_at hl 2 rfl) ?_
          refine lv_iload_n hx hb dX0_countRepeated_11 rfl (lv_at hl 0 rfl) ?_
          refine rcVi (as := [.int (5 : Int32)]) (rest := []) (cl := RX0) C (c_X0_isRepeated l G a S (5 : Int32) (vp_in_lit 5)) F_X0_isRepeated rfl bw278 bw280 bw15 hE hP (rv2 hE.K hP (q0 := 0) rfl) hl.1 dX0_countRepeated_12 ⟨Nat.le_of_ble_eq_true rfl, Nat.le_of_ble_eq_true rfl⟩ rfl (Nat.le_of_ble_eq_true rfl) ⟨Nat.zero_le _, Nat.zero_le _⟩ ?_
          refine lv_if_eq (tgt := 21) hx hb dX0_countRepeated_15 (by decide) (fun c_20 => ?_) (fun c_20 => ?_)
          · refine lv_iinc (v := (6 : Int32)) (lv' := [(2, .int (6 : Int32)), (1, .int (1 : Int32)), (0, .ref (a 0))]) hx hb dX0_countRepeated_21 hl (k := 0) rfl (by first | rfl | decide) (Nat.le_of_ble_eq_true rfl) rfl (fun ls hl => ?_)
            refine lv_goto (tgt := 4) hx hb dX0_countRepeated_24 (by decide) ?_
            refine lv_iload_n hx hb dX0_countRepeated_4 rfl (lv_at hl 0 rfl) ?_
            refine lv_bipush (v := (6 : Int32)) hx hb dX0_countRepeated_5 qb_6 ?_
            refine lv_icmp_ge (tgt := 27) hx hb dX0_countRepeated_7 (by decide) (fun _ => ?_) (fun c_x => absurd (show (6 : Int32) ≤ (6 : Int32) from by decide) c_x)
            refine lv_iload_n hx hb dX0_countRepeated_27 rfl (lv_at hl 1 rfl) ?_
            exact re_i hx hb hr hk dX0_countRepeated_28 (ei (Eq.trans (if_neg c_1) (Eq.trans (if_pos c_17) (Eq.trans (if_pos c_18) (Eq.trans (if_pos c_19) (if_pos c_20))))))
          · refine lv_iinc (v := (2 : Int32)) (lv' := [(1, .int (2 : Int32)), (2, .int (5 : Int32)), (0, .ref (a 0))]) hx hb dX0_countRepeated_18 hl (k := 1) rfl (by first | rfl | decide) (Nat.le_of_ble_eq_true rfl) rfl (fun ls hl => ?_)
            refine lv_iinc (v := (6 : Int32)) (lv' := [(2, .int (6 : Int32)), (1, .int (2 : Int32)), (0, .ref (a 0))]) hx hb dX0_countRepeated_21 hl (k := 1) rfl (by first | rfl | decide) (Nat.le_of_ble_eq_true rfl) rfl (fun ls hl => ?_)
            refine lv_goto (tgt := 4) hx hb dX0_countRepeated_24 (by decide) ?_
            refine lv_iload_n hx hb dX0_countRepeated_4 rfl (lv_at hl 0 rfl) ?_
            refine lv_bipush (v := (6 : Int32)) hx hb dX0_countRepeated_5 qb_6 ?_
            refine lv_icmp_ge (tgt := 27) hx hb dX0_countRepeated_7 (by decide) (fun _ => ?_) (fun c_x => absurd (show (6 : Int32) ≤ (6 : Int32) from by decide) c_x)
            refine lv_iload_n hx hb dX0_countRepeated_27 rfl (lv_at hl 1 rfl) ?_
            exact re_i hx hb hr hk dX0_countRepeated_28 (ei (Eq.trans (if_neg c_1) (Eq.trans (if_pos c_17) (Eq.trans (if_pos c_18) (Eq.trans (if_pos c_19) (if_neg c_20))))))
        · refine lv_iinc (v := (2 : Int32)) (lv' := [(1, .int (2 : Int32)), (2, .int (4 : Int32)), (0, .ref (a 0))]) hx hb dX0_countRepeated_18 hl (k := 1) rfl (by first | rfl | decide) (Nat.le_of_ble_eq_true rfl) rfl (fun ls hl => ?_)
          refine lv_iinc (v := (5 : Int32)) (lv' := [(2, .int (5 : Int32)), (1, .int (2 : Int32)), (0, .ref (a 0))]) hx hb dX0_countRepeated_21 hl (k := 1) rfl (by first | rfl | decide) (Nat.le_of_ble_eq_true rfl) rfl (fun ls hl => ?_)
          refine lv_goto (tgt := 4) hx hb dX0_countRepeated_24 (by decide) ?_
          refine lv_iload_n hx hb dX0_countRepeated_4 rfl (lv_at hl 0 rfl) ?_
          refine lv_bipush (v := (6 : Int32)) hx hb dX0_countRepeated_5 qb_6 ?_
          refine lv_icmp_ge (tgt := 27) hx hb dX0_countRepeated_7 (by decide) (fun c_x => absurd c_x (by decide)) (fun _ => ?_)
          refine lv_aload_n hx hb dX0_countRepeated_10 rfl (lv_at hl 2 rfl) ?_
          refine lv_iload_n hx hb dX0_countRepeated_11 rfl (lv_at hl 0 rfl) ?_
          refine rcVi (as := [.int (5 : Int32)]) (rest := []) (cl := RX0) C (c_X0_isRepeated l G a S (5 : Int32) (vp_in_lit 5)) F_X0_isRepeated rfl bw278 bw280 bw15 hE hP (rv2 hE.K hP (q0 := 0) rfl) hl.1 dX0_countRepeated_12 ⟨Nat.le_of_ble_eq_true rfl, Nat.le_of_ble_eq_true rfl⟩ rfl (Nat.le_of_ble_eq_true rfl) ⟨Nat.zero_le _, Nat.zero_le _⟩ ?_
          refine lv_if_eq (tgt := 21) hx hb dX0_countRepeated_15 (by decide) (fun c_21 => ?_) (fun c_21 => ?_)
          · refine lv_iinc (v := (6 : Int32)) (lv' := [(2, .int (6 : Int32)), (1, .int (2 : Int32)), (0, .ref (a 0))]) hx hb dX0_countRepeated_21 hl (k := 0) rfl (by first | rfl | decide) (Nat.le_of_ble_eq_true rfl) rfl (fun ls hl => ?_)
            refine lv_goto (tgt := 4) hx hb dX0_countRepeated_24 (by decide) ?_
            refine lv_iload_n hx hb dX0_countRepeated_4 rfl (lv_at hl 0 rfl) ?_
            refine lv_bipush (v := (6 : Int32)) hx hb dX0_countRepeated_5 qb_6 ?_
            refine lv_icmp_ge (tgt := 27) hx hb dX0_countRepeated_7 (by decide) (fun _ => ?_) (fun c_x => absurd (show (6 : Int32) ≤ (6 : Int32) from by decide) c_x)
            refine lv_iload_n hx hb dX0_countRepeated_27 rfl (lv_at hl 1 rfl) ?_
            exact re_i hx hb hr hk dX0_countRepeated_28 (ei (Eq.trans (if_neg c_1) (Eq.trans (if_pos c_17) (Eq.trans (if_pos c_18) (Eq.trans (if_neg c_19) (if_pos c_21))))))
          · refine lv_iinc (v := (3 : Int32)) (lv' := [(1, .int (3 : Int32)), (2, .int (5 : Int32)), (0, .ref (a 0))]) hx hb dX0_countRepeated_18 hl (k := 1) rfl (by first | rfl | decide) (Nat.le_of_ble_eq_true rfl) rfl (fun ls hl => ?_)
            refine lv_iinc (v := (6 : Int32)) (lv' := [(2, .int (6 : Int32)), (1, .int (3 : Int32)), (0, .ref (a 0))]) hx hb dX0_countRepeated_21 hl (k := 1) rfl (by first | rfl | decide) (Nat.le_of_ble_eq_true rfl) rfl (fun ls hl => ?_)
            refine lv_goto (tgt := 4) hx hb dX0_countRepeated_24 (by decide) ?_
            refine lv_iload_n hx hb dX0_countRepeated_4 rfl (lv_at hl 0 rfl) ?_
            refine lv_bipush (v := (6 : Int32)) hx hb dX0_countRepeated_5 qb_6 ?_
            refine lv_icmp_ge (tgt := 27) hx hb dX0_countRepeated_7 (by decide) (fun _ => ?_) (fun c_x => absurd (show (6 : Int32) ≤ (6 : Int32) from by decide) c_x)
            refine lv_iload_n hx hb dX0_countRepeated_27 rfl (lv_at hl 1 rfl) ?_
            exact re_i hx hb hr hk dX0_countRepeated_28 (ei (Eq.trans (if_neg c_1) (Eq.trans (if_pos c_17) (Eq.trans (if_pos c_18) (Eq.trans (if_neg c_19) (if_neg c_21))))))
      · refine lv_iinc (v := (2 : Int32)) (lv' := [(1, .int (2 : Int32)), (2, .int (3 : Int32)), (0, .ref (a 0))]) hx hb dX0_countRepeated_18 hl (k := 1) rfl (by first | rfl | decide) (Nat.le_of_ble_eq_true rfl) rfl (fun ls hl => ?_)
        refine lv_iinc (v := (4 : Int32)) (lv' := [(2, .int (4 : Int32)), (1, .int (2 : Int32)), (0, .ref (a 0))]) hx hb dX0_countRepeated_21 hl (k := 1) rfl (by first | rfl | decide) (Nat.le_of_ble_eq_true rfl) rfl (fun ls hl => ?_)
        refine lv_goto (tgt := 4) hx hb dX0_countRepeated_24 (by decide) ?_
        refine lv_iload_n hx hb dX0_countRepeated_4 rfl (lv_at hl 0 rfl) ?_
        refine lv_bipush (v := (6 : Int32)) hx hb dX0_countRepeated_5 qb_6 ?_
        refine lv_icmp_ge (tgt := 27) hx hb dX0_countRepeated_7 (by decide) (fun c_x => absurd c_x (by decide)) (fun _ => ?_)
        refine lv_aload_n hx hb dX0_countRepeated_10 rfl (lv_at hl 2 rfl) ?_
        refine lv_iload_n hx hb dX0_countRepeated_11 rfl (lv_at hl 0 rfl) ?_
        refine rcVi (as := [.int (4 : Int32)]) (rest := []) (cl := RX0) C (c_X0_isRepeated l G a S (4 : Int32) (vp_in_lit 4)) F_X0_isRepeated rfl bw278 bw280 bw15 hE hP (rv2 hE.K hP (q0 := 0) rfl) hl.1 dX0_countRepeated_12 ⟨Nat.le_of_ble_eq_true rfl, Nat.le_of_ble_eq_true rfl⟩ rfl (Nat.le_of_ble_eq_true rfl) ⟨Nat.zero_le _, Nat.zero_le _⟩ ?_
        refine lv_if_eq (tgt := 21) hx hb dX0_countRepeated_15 (by decide) (fun c_22 => ?_) (fun c_22 => ?_)
        · refine lv_iinc (v := (5 : Int32)) (lv' := [(2, .int (5 : Int32)), (1, .int (2 : Int32)), (0, .ref (a 0))]) hx hb dX0_countRepeated_21 hl (k := 0) rfl (by first | rfl | decide) (Nat.le_of_ble_eq_true rfl) rfl (fun ls hl => ?_)
          refine lv_goto (tgt := 4) hx hb dX0_countRepeated_24 (by decide) ?_
          refine lv_iload_n hx hb dX0_countRepeated_4 rfl (lv_at hl 0 rfl) ?_
          refine lv_bipush (v := (6 : Int32)) hx hb dX0_countRepeated_5 qb_6 ?_
          refine lv_icmp_ge (tgt := 27) hx hb dX0_countRepeated_7 (by decide) (fun c_x => absurd c_x (by decide)) (fun _ => ?_)
          refine lv_aload_n hx hb dX0_countRepeated_10 rfl (lv_at hl 2 rfl) ?_
          refine lv_iload_n hx hb dX0_countRepeated_11 rfl (lv_at hl 0 rfl) ?_
          refine rcVi (as := [.int (5 : Int32)]) (rest := []) (cl := RX0) C (c_X0_isRepeated l G a S (5 : Int32) (vp_in_lit 5)) F_X0_isRepeated rfl bw278 bw280 bw15 hE hP (rv2 hE.K hP (q0 := 0) rfl) hl.1 dX0_countRepeated_12 ⟨Nat.le_of_ble_eq_true rfl, Nat.le_of_ble_eq_true rfl⟩ rfl (Nat.le_of_ble_eq_true rfl) ⟨Nat.zero_le _, Nat.zero_le _⟩ ?_
          refine lv_if_eq (tgt := 21) hx hb dX0_countRepeated_15 (by decide) (fun c_23 => ?_) (fun c_23 => ?_)
          · refine lv_iinc (v := (6 : Int32)) (lv' := [(2, .int (6 : Int32)), (1, .int (2 : Int32)), (0, .ref (a 0))]) hx hb dX0_countRepeated_21 hl (k := 0) rfl (by first | rfl | decide) (Nat.le_of_ble_eq_true rfl) rfl (fun ls hl => ?_)
            refine lv_goto (tgt := 4) hx hb dX0_countRepeated_24 (by decide) ?_
            refine lv_iload_n hx hb dX0_countRepeated_4 rfl (lv_at hl 0 rfl) ?_
            refine lv_bipush (v := (6 : Int32)) hx hb dX0_countRepeated_5 qb_6 ?_
            refine lv_icmp_ge (tgt := 27) hx hb dX0_countRepeated_7 (by decide) (fun _ => ?_) (fun c_x => absurd (show (6 : Int32) ≤ (6 : Int32) from by decide) c_x)
            refine lv_iload_n hx hb dX0_countRepeated_27 rfl (lv_at hl 1 rfl) ?_
            exact re_i hx hb hr hk dX0_countRepeated_28 (ei (Eq.trans (if_neg c_1) (Eq.trans (if_pos c_17) (Eq.trans (if_neg c_18) (Eq.trans (if_pos c_22) (if_pos c_23))))))
          · refine lv_iinc (v := (3 : Int32)) (lv' := [(1, .int (3 : Int32)), (2, .int (5 : Int32)), (0, .ref (a 0))]) hx hb dX0_countRepeated_18 hl (k := 1) rfl (by first | rfl | decide) (Nat.le_of_ble_eq_true rfl) rfl (fun ls hl => ?_)
            refine lv_iinc (v := (6 : Int32)) (lv' := [(2, .int (6 : Int32)), (1, .int (3 : Int32)), (0, .ref (a 0))]) hx hb dX0_countRepeated_21 hl (k := 1) rfl (by first | rfl | decide) (Nat.le_of_ble_eq_true rfl) rfl (fun ls hl => ?_)
            refine lv_goto (tgt := 4) hx hb dX0_countRepeated_24 (by decide) ?_
            refine lv_iload_n hx hb dX0_countRepeated_4 rfl (lv_at hl 0 rfl) ?_
            refine lv_bipush (v := (6 : Int32)) hx hb dX0_countRepeated_5 qb_6 ?_
            refine lv_icmp_ge (tgt := 27) hx hb dX0_countRepeated_7 (by decide) (fun _ => ?_) (fun c_x => absurd (show (6 : Int32) ≤ (6 : Int32) from by decide) c_x)
            refine lv_iload_n hx hb dX0_countRepeated_27 rfl (lv_at hl 1 rfl) ?_
            exact re_i hx hb hr hk dX0_countRepeated_28 (ei (Eq.trans (if_neg c_1) (Eq.trans (if_pos c_17) (Eq.trans (if_neg c_18) (Eq.trans (if_pos c_22) (if_neg c_23))))))
        · refine lv_iinc (v := (3 : Int32)) (lv' := [(1, .int (3 : Int32)), (2, .int (4 : Int32)), (0, .ref (a 0))]) hx hb dX0_countRepeated_18 hl (k := 1) rfl (by first | rfl | decide) (Nat.le_of_ble_eq_true rfl) rfl (fun ls hl => ?_)
          refine lv_iinc (v := (5 : Int32)) (lv' := [(2, .int (5 : Int32)), (1, .int (3 : Int32)), (0, .ref (a 0))]) hx hb dX0_countRepeated_21 hl (k := 1) rfl (by first | rfl | decide) (Nat.le_of_ble_eq_true rfl) rfl (fun ls hl => ?_)
          refine lv_goto (tgt := 4) hx hb dX0_countRepeated_24 (by decide) ?_
          refine lv_iload_n hx hb dX0_countRepeated_4 rfl (lv_at hl 0 rfl) ?_
          refine lv_bipush (v := (6 : Int32)) hx hb dX0_countRepeated_5 qb_6 ?_
          refine lv_icmp_ge (tgt := 27) hx hb dX0_countRepeated_7 (by decide) (fun c_x => absurd c_x (by decide)) (fun _ => ?_)
          refine lv_aload_n hx hb dX0_countRepeated_10 rfl (lv_at hl 2 rfl) ?_
          refine lv_iload_n hx hb dX0_countRepeated_11 rfl (lv_at hl 0 rfl) ?_
          refine rcVi (as := [.int (5 : Int32)]) (rest := []) (cl := RX0) C (c_X0_isRepeated l G a S (5 : Int32) (vp_in_lit 5)) F_X0_isRepeated rfl bw278 bw280 bw15 hE hP (rv2 hE.K hP (q0 := 0) rfl) hl.1 dX0_countRepeated_12 ⟨Nat.le_of_ble_eq_true rfl, Nat.le_of_ble_eq_true rfl⟩ rfl (Nat.le_of_ble_eq_true rfl) ⟨Nat.zero_le _, Nat.zero_le _⟩ ?_
          refine lv_if_eq (tgt := 21) hx hb dX0_countRepeated_15 (by decide) (fun c_24 => ?_) (fun c_24 => ?_)
          · refine lv_iinc (v := (6 : Int32)) (lv' := [(2, .int (6 : Int32)), (1, .int (3 : Int32)), (0, .ref (a 0))]) hx hb dX0_countRepeated_21 hl (k := 0) rfl (by first | rfl | decide) (Nat.le_of_ble_eq_true rfl) rfl (fun ls hl => ?_)
            refine lv_goto (tgt := 4) hx hb dX0_countRepeated_24 (by decide) ?_
            refine lv_iload_n hx hb dX0_countRepeated_4 rfl (lv_at hl 0 rfl) ?_
            refine lv_bipush (v := (6 : Int32)) hx hb dX0_countRepeated_5 qb_6 ?_
            refine lv_icmp_ge (tgt := 27) hx hb dX0_countRepeated_7 (by decide) (fun _ => ?_) (fun c_x => absurd (show (6 : Int32) ≤ (6 : Int32) from by decide) c_x)
            refine lv_iload_n hx hb dX0_countRepeated_27 rfl (lv_at hl 1 rfl) ?_
            exact re_i hx hb hr hk dX0_countRepeated_28 (ei (Eq.trans (if_neg c_1) (Eq.trans (if_pos c_17) (Eq.trans (if_neg c_18) (Eq.trans (if_neg c_22) (if_pos c_24))))))
          · refine lv_iinc (v := (4 : Int32)) (lv' := [(1, .int (4 : Int32)), (2, .int (5 : Int32)), (0, .ref (a 0))]) hx hb dX0_countRepeated_18 hl (k := 1) rfl (by first | rfl | decide) (Nat.le_of_ble_eq_true rfl) rfl (fun ls hl => ?_)
            refine lv_iinc (v := (6 : Int32)) (lv' := [(2, .int (6 : Int32)), (1, .int (4 : Int32)), (0, .ref (a 0))]) hx hb dX0_countRepeated_21 hl (k := 1) rfl (by first | rfl | decide) (Nat.le_of_ble_eq_true rfl) rfl (fun ls hl => ?_)
            refine lv_goto (tgt := 4) hx hb dX0_countRepeated_24 (by decide) ?_
            refine lv_iload_n hx hb dX0_countRepeated_4 rfl (lv_at hl 0 rfl) ?_
            refine lv_bipush (v := (6 : Int32)) hx hb dX0_countRepeated_5 qb_6 ?_
            refine lv_icmp_ge (tgt := 27) hx hb dX0_countRepeated_7 (by decide) (fun _ => ?_) (fun c_x => absurd (show (6 : Int32) ≤ (6 : Int32) from by decide) c_x)
            refine lv_iload_n hx hb dX0_countRepeated_27 rfl (lv_at hl 1 rfl) ?_
            exact re_i hx hb hr hk dX0_countRepeated_28 (ei (Eq.trans (if_neg c_1) (Eq.trans (if_pos c_17) (Eq.trans (if_neg c_18) (Eq.trans (if_neg c_22) (if_neg c_24))))))
    · refine lv_iinc (v := (2 : Int32)) (lv' := [(1, .int (2 : Int32)), (2, .int (2 : Int32)), (0, .ref (a 0))]) hx hb dX0_countRepeated_18 hl (k := 1) rfl (by first | rfl | decide) (Nat.le_of_ble_eq_true rfl) rfl (fun ls hl => ?_)
      refine lv_iinc (v := (3 : Int32)) (lv' := [(2, .int (3 : Int32)), (1, .int (2 : Int32)), (0, .ref (a 0))]) hx hb dX0_countRepeated_21 hl (k := 1) rfl (by first | rfl | decide) (Nat.le_of_ble_eq_true rfl) rfl (fun ls hl => ?_)
      refine lv_goto (tgt := 4) hx hb dX0_countRepeated_24 (by decide) ?_
      refine lv_iload_n hx hb dX0_countRepeated_4 rfl (lv_at hl 0 rfl) ?_
      refine lv_bipush (v := (6 : Int32)) hx hb dX0_countRepeated_5 qb_6 ?_
      refine lv_icmp_ge (tgt := 27) hx hb dX0_countRepeated_7 (by decide) (fun c_x => absurd c_x (by decide)) (fun _ => ?_)
      refine lv_aload_n hx hb dX0_countRepeated_10 rfl (lv_at hl 2 rfl) ?_
      refine lv_iload_n hx hb dX0_countRepeated_11 rfl (lv_at hl 0 rfl) ?_
      refine rcVi (as := [.int (3 : Int32)]) (rest := []) (cl := RX0) C (c_X0_isRepeated l G a S (3 : Int32) (vp_in_lit 3)) F_X0_isRepeated rfl bw278 bw280 bw15 hE hP (rv2 hE.K hP (q0 := 0) rfl) hl.1 dX0_countRepeated_12 ⟨Nat.le_of_ble_eq_true rfl, Nat.le_of_ble_eq_true rfl⟩ rfl (Nat.le_of_ble_eq_true rfl) ⟨Nat.zero_le _, Nat.zero_le _⟩ ?_
      refine lv_if_eq (tgt := 21) hx hb dX0_countRepeated_15 (by decide) (fun c_25 => ?_) (fun c_25 => ?_)
      · refine lv_iinc (v := (4 : Int32)) (lv' := [(2, .int (4 : Int32)), (1, .int (2 : Int32)), (0, .ref (a 0))]) hx hb dX0_countRepeated_21 hl (k := 0) rfl (by first | rfl | decide) (Nat.le_of_ble_eq_true rfl) rfl (fun ls hl => ?_)
        refine lv_goto (tgt := 4) hx hb dX0_countRepeated_24 (by decide) ?_
        refine lv_iload_n hx hb dX0_countRepeated_4 rfl (lv_at hl 0 rfl) ?_
        refine lv_bipush (v := (6 : Int32)) hx hb dX0_countRepeated_5 qb_6 ?_
        refine lv_icmp_ge (tgt := 27) hx hb dX0_countRepeated_7 (by decide) (fun c_x => absurd c_x (by decide)) (fun _ => ?_)
        refine lv_aload_n hx hb dX0_countRepeated_10 rfl (lv_at hl 2 rfl) ?_
        refine lv_iload_n hx hb dX0_countRepeated_11 rfl (lv_at hl 0 rfl) ?_
        refine rcVi (as := [.int (4 : Int32)]) (rest := []) (cl := RX0) C (c_X0_isRepeated l G a S (4 : Int32) (vp_in_lit 4)) F_X0_isRepeated rfl bw278 bw280 bw15 hE hP (rv2 hE.K hP (q0 := 0) rfl) hl.1 dX0_countRepeated_12 ⟨Nat.le_of_ble_eq_true rfl, Nat.le_of_ble_eq_true rfl⟩ rfl (Nat.le_of_ble_eq_true rfl) ⟨Nat.zero_le _, Nat.zero_le _⟩ ?_
        refine lv_if_eq (tgt := 21) hx hb dX0_countRepeated_15 (by decide) (fun c_26 => ?_) (fun c_26 => ?_)
        · refine lv_iinc (v := (5 : Int32)) (lv' := [(2, .int (5 : Int32)), (1, .int (2 : Int32)), (0, .ref (a 0))]) hx hb dX0_countRepeated_21 hl (k := 0) rfl (by first | rfl | decide) (Nat.le_of_ble_eq_true rfl) rfl (fun ls hl => ?_)
          refine lv_goto (tgt := 4) hx hb dX0_countRepeated_24 (by decide) ?_
          refine lv_iload_n hx hb dX0_countRepeated_4 rfl (lv_at hl 0 rfl) ?_
          refine lv_bipush (v := (6 : Int32)) hx hb dX0_countRepeated_5 qb_6 ?_
          refine lv_icmp_ge (tgt := 27) hx hb dX0_countRepeated_7 (by decide) (fun c_x => absurd c_x (by decide)) (fun _ => ?_)
          refine lv_aload_n hx hb dX0_countRepeated_10 rfl (lv_at hl 2 rfl) ?_
          refine lv_iload_n hx hb dX0_countRepeated_11 rfl (lv_at hl 0 rfl) ?_
          refine rcVi (as := [.int (5 : Int32)]) (rest := []) (cl := RX0) C (c_X0_isRepeated l G a S (5 : Int32) (vp_in_lit 5)) F_X0_isRepeated rfl bw278 bw280 bw15 hE hP (rv2 hE.K hP (q0 := 0) rfl) hl.1 dX0_countRepeated_12 ⟨Nat.le_of_ble_eq_true rfl, Nat.le_of_ble_eq_true rfl⟩ rfl (Nat.le_of_ble_eq_true rfl) ⟨Nat.zero_le _, Nat.zero_le _⟩ ?_
          refine lv_if_eq (tgt := 21) hx hb dX0_countRepeated_15 (by decide) (fun c_27 => ?_) (fun c_27 => ?_)
          · refine lv_iinc (v := (6 : Int32)) (lv' := [(2, .int (6 : Int32)), (1, .int (2 : Int32)), (0, .ref (a 0))]) hx hb dX0_countRepeated_21 hl (k := 0) rfl (by first | rfl | decide) (Nat.le_of_ble_eq_true rfl) rfl (fun ls hl => ?_)
            refine lv_goto (tgt := 4) hx hb dX0_countRepeated_24 (by decide) ?_
            refine lv_iload_n hx hb dX0_countRepeated_4 rfl (lv_at hl 0 rfl) ?_
            refine lv_bipush (v := (6 : Int32)) hx hb dX0_countRepeated_5 qb_6 ?_
            refine lv_icmp_ge (tgt := 27) hx hb dX0_countRepeated_7 (by decide) (fun _ => ?_) (fun c_x => absurd (show (6 : Int32) ≤ (6 : Int32) from by decide) c_x)
            refine lv_iload_n hx hb dX0_countRepeated_27 rfl (lv_at hl 1 rfl) ?_
            exact re_i hx hb hr hk dX0_countRepeated_28 (ei (Eq.trans (if_neg c_1) (Eq.trans (if_neg c_17) (Eq.trans (if_pos c_25) (Eq.trans (if_pos c_26) (if_pos c_27))))))
          · refine lv_iinc (v := (3 : Int32)) (lv' := [(1, .int (3 : Int32)), (2, .int (5 : Int32)), (0, .ref (a 0))]) hx hb dX0_countRepeated_18 hl (k := 1) rfl (by first | rfl | decide) (Nat.le_of_ble_eq_true rfl) rfl (fun ls hl => ?_)
            refine lv_iinc (v := (6 : Int32)) (lv' := [(2, .int (6 : Int32)), (1, .int (3 : Int32)), (0, .ref (a 0))]) hx hb dX0_countRepeated_21 hl (k := 1) rfl (by first | rfl | decide) (Nat.le_of_ble_eq_true rfl) rfl (fun ls hl => ?_)
            refine lv_goto (tgt := 4) hx hb dX0_countRepeated_24 (by decide) ?_
            refine lv_iload_n hx hb dX0_countRepeated_4 rfl (lv_at hl 0 rfl) ?_
            refine lv_bipush (v := (6 : Int32)) hx hb dX0_countRepeated_5 qb_6 ?_
            refine lv_icmp_ge (tgt := 27) hx hb dX0_countRepeated_7 (by decide) (fun _ => ?_) (fun c_x => absurd (show (6 : Int32) ≤ (6 : Int32) from by decide) c_x)
            refine lv_iload_n hx hb dX0_countRepeated_27 rfl (lv_at hl 1 rfl) ?_
            exact re_i hx hb hr hk dX0_countRepeated_28 (ei (Eq.trans (if_neg c_1) (Eq.trans (if_neg c_17) (Eq.trans (if_pos c_25) (Eq.trans (if_pos c_26) (if_neg c_27))))))
        · refine lv_iinc (v := (3 : Int32)) (lv' := [(1, .int (3 : Int32)), (2, .int (4 : Int32)), (0, .ref (a 0))]) hx hb dX0_countRepeated_18 hl (k := 1) rfl (by first | rfl | decide) (Nat.le_of_ble_eq_true rfl) rfl (fun ls hl => ?_)
          refine lv_iinc (v := (5 : Int32)) (lv' := [(2, .int (5 : Int32)), (1, .int (3 : Int32)), (0, .ref (a 0))]) hx hb dX0_countRepeated_21 hl (k := 1) rfl (by first | rfl | decide) (Nat.le_of_ble_eq_true rfl) rfl (fun ls hl => ?_)
          refine lv_goto (tgt := 4) hx hb dX0_countRepeated_24 (by decide) ?_
          refine lv_iload_n hx hb dX0_countRepeated_4 rfl (lv_at hl 0 rfl) ?_
          refine lv_bipush (v := (6 : Int32)) hx hb dX0_countRepeated_5 qb_6 ?_
          refine lv_icmp_ge (tgt := 27) hx hb dX0_countRepeated_7 (by decide) (fun c_x => absurd c_x (by decide)) (fun _ => ?_)
          refine lv_aload_n hx hb dX0_countRepeated_10 rfl (lv_at hl 2 rfl) ?_
          refine lv_iload_n hx hb dX0_countRepeated_11 rfl (lv_at hl 0 rfl) ?_
          refine rcVi (as := [.int (5 : Int32)]) (rest := []) (cl := RX0) C (c_X0_isRepeated l G a S (5 : Int32) (vp_in_lit 5)) F_X0_isRepeated rfl bw278 bw280 bw15 hE hP (rv2 hE.K hP (q0 := 0) rfl) hl.1 dX0_countRepeated_12 ⟨Nat.le_of_ble_eq_true rfl, Nat.le_of_ble_eq_true rfl⟩ rfl (Nat.le_of_ble_eq_true rfl) ⟨Nat.zero_le _, Nat.zero_le _⟩ ?_
          refine lv_if_eq (tgt := 21) hx hb dX0_countRepeated_15 (by decide) (fun c_28 => ?_) (fun c_28 => ?_)
          · refine lv_iinc (v := (6 : Int32)) (lv' := [(2, .int (6 : Int32)), (1, .int (3 : Int32)), (0, .ref (a 0))]) hx hb dX0_countRepeated_21 hl (k := 0) rfl (by first | rfl | decide) (Nat.le_of_ble_eq_true rfl) rfl (fun ls hl => ?_)
            refine lv_goto (tgt := 4) hx hb dX0_countRepeated_24 (by decide) ?_
            refine lv_iload_n hx hb dX0_countRepeated_4 rfl (lv_at hl 0 rfl) ?_
            refine lv_bipush (v := (6 : Int32)) hx hb dX0_countRepeated_5 qb_6 ?_
            refine lv_icmp_ge (tgt := 27) hx hb dX0_countRepeated_7 (by decide) (fun _ => ?_) (fun c_x => absurd (show (6 : Int32) ≤ (6 : Int32) from by decide) c_x)
            refine lv_iload_n hx hb dX0_countRepeated_27 rfl (lv_at hl 1 rfl) ?_
            exact re_i hx hb hr hk dX0_countRepeated_28 (ei (Eq.trans (if_neg c_1) (Eq.trans (if_neg c_17) (Eq.trans (if_pos c_25) (Eq.trans (if_neg c_26) (if_pos c_28))))))
          · refine lv_iinc (v := (4 : Int32)) (lv' := [(1, .int (4 : Int32)), (2, .int (5 : Int32)), (0, .ref (a 0))]) hx hb dX0_countRepeated_18 hl (k := 1) rfl (by first | rfl | decide) (Nat.le_of_ble_eq_true rfl) rfl (fun ls hl => ?_)
            refine lv_iinc (v := (6 : Int32)) (lv' := [(2, .int (6 : Int32)), (1, .int (4 : Int32)), (0, .ref (a 0))]) hx hb dX0_countRepeated_21 hl (k := 1) rfl (by first | rfl | decide) (Nat.le_of_ble_eq_true rfl) rfl (fun ls hl => ?_)
            refine lv_goto (tgt := 4) hx hb dX0_countRepeated_24 (by decide) ?_
            refine lv_iload_n hx hb dX0_countRepeated_4 rfl (lv_at hl 0 rfl) ?_
            refine lv_bipush (v := (6 : Int32)) hx hb dX0_countRepeated_5 qb_6 ?_
            refine lv_icmp_ge (tgt := 27) hx hb dX0_countRepeated_7 (by decide) (fun _ => ?_) (fun c_x => absurd (show (6 : Int32) ≤ (6 : Int32) from by decide) c_x)
            refine lv_iload_n hx hb dX0_countRepeated_27 rfl (lv_at hl 1 rfl) ?_
            exact re_i hx hb hr hk dX0_countRepeated_28 (ei (Eq.trans (if_neg c_1) (Eq.trans (if_neg c_17) (Eq.trans (if_pos c_25) (Eq.trans (if_neg c_26) (if_neg c_28))))))
      · refine lv_iinc (v := (3 : Int32)) (lv' := [(1, .int (3 : Int32)), (2, .int (3 : Int32)), (0, .ref (a 0))]) hx hb dX0_countRepeated_18 hl (k := 1) rfl (by first | rfl | decide) (Nat.le_of_ble_eq_true rfl) rfl (fun ls hl => ?_)
        refine lv_iinc (v := (4 : Int32)) (lv' := [(2, .int (4 : Int32)), (1, .int (3 : Int32)), (0, .ref (a 0))]) hx hb dX0_countRepeated_21 hl (k := 1) rfl (by first | rfl | decide) (Nat.le_of_ble_eq_true rfl) rfl (fun ls hl => ?_)
        refine lv_goto (tgt := 4) hx hb dX0_countRepeated_24 (by decide) ?_
        refine lv_iload_n hx hb dX0_countRepeated_4 rfl (lv_at hl 0 rfl) ?_
        refine lv_bipush (v := (6 : Int32)) hx hb dX0_countRepeated_5 qb_6 ?_
        refine lv_icmp_ge (tgt := 27) hx hb dX0_countRepeated_7 (by decide) (fun c_x => absurd c_x (by decide)) (fun _ => ?_)
        refine lv_aload_n hx hb dX0_countRepeated_10 rfl (lv_at hl 2 rfl) ?_
        refine lv_iload_n hx hb dX0_countRepeated_11 rfl (lv_at hl 0 rfl) ?_
        refine rcVi (as := [.int (4 : Int32)]) (rest := []) (cl := RX0) C (c_X0_isRepeated l G a S (4 : Int32) (vp_in_lit 4)) F_X0_isRepeated rfl bw278 bw280 bw15 hE hP (rv2 hE.K hP (q0 := 0) rfl) hl.1 dX0_countRepeated_12 ⟨Nat.le_of_ble_eq_true rfl, Nat.le_of_ble_eq_true rfl⟩ rfl (Nat.le_of_ble_eq_true rfl) ⟨Nat.zero_le _, Nat.zero_le _⟩ ?_
        refine lv_if_eq (tgt := 21) hx hb dX0_countRepeated_15 (by decide) (fun c_29 => ?_) (fun c_29 => ?_)
        · refine lv_iinc (v := (5 : Int32)) (lv' := [(2, .int (5 : Int32)), (1, .int (3 : Int32)), (0, .ref (a 0))]) hx hb dX0_countRepeated_21 hl (k := 0) rfl (by first | rfl | decide) (Nat.le_of_ble_eq_true rfl) rfl (fun ls hl => ?_)
          refine lv_goto (tgt := 4) hx hb dX0_countRepeated_24 (by decide) ?_
          refine lv_iload_n hx hb dX0_countRepeated_4 rfl (lv_at hl 0 rfl) ?_
          refine lv_bipush (v := (6 : Int32)) hx hb dX0_countRepeated_5 qb_6 ?_
          refine lv_icmp_ge (tgt := 27) hx hb dX0_countRepeated_7 (by decide) (fun c_x => absurd c_x (by decide)) (fun _ => ?_)
          refine lv_aload_n hx hb dX0_countRepeated_10 rfl (lv_at hl 2 rfl) ?_
          refine lv_iload_n hx hb dX0_countRepeated_11 rfl (lv_at hl 0 rfl) ?_
          refine rcVi (as := [.int (5 : Int32)]) (rest := []) (cl := RX0) C (c_X0_isRepeated l G a S (5 : Int32) (vp_in_lit 5)) F_X0_isRepeated rfl bw278 bw280 bw15 hE hP (rv2 hE.K hP (q0 := 0) rfl) hl.1 dX0_countRepeated_12 ⟨Nat.le_of_ble_eq_true rfl, Nat.le_of_ble_eq_true rfl⟩ rfl (Nat.le_of_ble_eq_true rfl) ⟨Nat.zero_le _, Nat.zero_le _⟩ ?_
          refine lv_if_eq (tgt := 21) hx hb dX0_countRepeated_15 (by decide) (fun c_30 => ?_) (fun c_30 => ?_)
          · refine lv_iinc (v := (6 : Int32)) (lv' := [(2, .int (6 : Int32)), (1, .int (3 : Int32)), (0, .ref (a 0))]) hx hb dX0_countRepeated_21 hl (k := 0) rfl (by first | rfl | decide) (Nat.le_of_ble_eq_true rfl) rfl (fun ls hl => ?_)
            refine lv_goto (tgt := 4) hx hb dX0_countRepeated_24 (by decide) ?_
            refine lv_iload_n hx hb dX0_countRepeated_4 rfl (lv_at hl 0 rfl) ?_
            refine lv_bipush (v := (6 : Int32)) hx hb dX0_countRepeated_5 qb_6 ?_
            refine lv_icmp_ge (tgt := 27) hx hb dX0_countRepeated_7 (by decide) (fun _ => ?_) (fun c_x => absurd (show (6 : Int32) ≤ (6 : Int32) from by decide) c_x)
            refine lv_iload_n hx hb dX0_countRepeated_27 rfl (lv_at hl 1 rfl) ?_
            exact re_i hx hb hr hk dX0_countRepeated_28 (ei (Eq.trans (if_neg c_1) (Eq.trans (if_neg c_17) (Eq.trans (if_neg c_25) (Eq.trans (if_pos c_29) (if_pos c_30))))))
          · refine lv_iinc (v := (4 : Int32)) (lv' := [(1, .int (4 : Int32)), (2, .int (5 : Int32)), (0, .ref (a 0))]) hx hb dX0_countRepeated_18 hl (k := 1) rfl (by first | rfl | decide) (Nat.le_of_ble_eq_true rfl) rfl (fun ls hl => ?_)
            refine lv_iinc (v := (6 : Int32)) (lv' := [(2, .int (6 : Int32)), (1, .int (4 : Int32)), (0, .ref (a 0))]) hx hb dX0_countRepeated_21 hl (k := 1) rfl (by first | rfl | decide) (Nat.le_of_ble_eq_true rfl) rfl (fun ls hl => ?_)
            refine lv_goto (tgt := 4) hx hb dX0_countRepeated_24 (by decide) ?_
            refine lv_iload_n hx hb dX0_countRepeated_4 rfl (lv_at hl 0 rfl) ?_
            refine lv_bipush (v := (6 : Int32)) hx hb dX0_countRepeated_5 qb_6 ?_
            refine lv_icmp_ge (tgt := 27) hx hb dX0_countRepeated_7 (by decide) (fun _ => ?_) (fun c_x => absurd (show (6 : Int32) ≤ (6 : Int32) from by decide) c_x)
            refine lv_iload_n hx hb dX0_countRepeated_27 rfl (lv_at hl 1 rfl) ?_
            exact re_i hx hb hr hk dX0_countRepeated_28 (ei (Eq.trans (if_neg c_1) (Eq.trans (if_neg c_17) (Eq.trans (if_neg c_25) (Eq.trans (if_pos c_29) (if_neg c_30))))))
        · refine lv_iinc (v := (4 : Int32)) (lv' := [(1, .int (4 : Int32)), (2, .int (4 : Int32)), (0, .ref (a 0))]) hx hb dX0_countRepeated_18 hl (k := 1) rfl (by first | rfl | decide) (Nat.le_of_ble_eq_true rfl) rfl (fun ls hl => ?_)
          refine lv_iinc (v := (5 : Int32)) (lv' := [(2, .int (5 : Int32)), (1, .int (4 : Int32)), (0, .ref (a 0))]) hx hb dX0_countRepeated_21 hl (k := 1) rfl (by first | rfl | decide) (Nat.le_of_ble_eq_true rfl) rfl (fun ls hl => ?_)
          refine lv_goto (tgt := 4) hx hb dX0_countRepeated_24 (by decide) ?_
          refine lv_iload_n hx hb dX0_countRepeated_4 rfl (lv_at hl 0 rfl) ?_
          refine lv_bipush (v := (6 : Int32)) hx hb dX0_countRepeated_5 qb_6 ?_
          refine lv_icmp_ge (tgt := 27) hx hb dX0_countRepeated_7 (by decide) (fun c_x => absurd c_x (by decide)) (fun _ => ?_)
          refine lv_aload_n hx hb dX0_countRepeated_10 rfl (lv_at hl 2 rfl) ?_
          refine lv_iload_n hx hb dX0_countRepeated_11 rfl (lv_at hl 0 rfl) ?_
          refine rcVi (as := [.int (5 : Int32)]) (rest := []) (cl := RX0) C (c_X0_isRepeated l G a S (5 : Int32) (vp_in_lit 5)) F_X0_isRepeated rfl bw278 bw280 bw15 hE hP (rv2 hE.K hP (q0 := 0) rfl) hl.1 dX0_countRepeated_12 ⟨Nat.le_of_ble_eq_true rfl, Nat.le_of_ble_eq_true rfl⟩ rfl (Nat.le_of_ble_eq_true rfl) ⟨Nat.zero_le _, Nat.zero_le _⟩ ?_
          refine lv_if_eq (tgt := 21) hx hb dX0_countRepeated_15 (by decide) (fun c_31 => ?_) (fun c_31 => ?_)
          · refine lv_iinc (v := (6 : Int32)) (lv' := [(2, .int (6 : Int32)), (1, .int (4 : Int32)), (0, .ref (a 0))]) hx hb dX0_countRepeated_21 hl (k := 0) rfl (by first | rfl | decide) (Nat.le_of_ble_eq_true rfl) rfl (fun ls hl => ?_)
            refine lv_goto (tgt := 4) hx hb dX0_countRepeated_24 (by decide) ?_
            refine lv_iload_n hx hb dX0_countRepeated_4 rfl (lv_at hl 0 rfl) ?_
            refine lv_bipush (v := (6 : Int32)) hx hb dX0_countRepeated_5 qb_6 ?_
            refine lv_icmp_ge (tgt := 27) hx hb dX0_countRepeated_7 (by decide) (fun _ => ?_) (fun c_x => absurd (show (6 : Int32) ≤ (6 : Int32) from by decide) c_x)
            refine lv_iload_n hx hb dX0_countRepeated_27 rfl (lv_at hl 1 rfl) ?_
            exact re_i hx hb hr hk dX0_countRepeated_28 (ei (Eq.trans (if_neg c_1) (Eq.trans (if_neg c_17) (Eq.trans (if_neg c_25) (Eq.trans (if_neg c_29) (if_pos c_31))))))
          · refine lv_iinc (v := (5 : Int32)) (lv' := [(1, .int (5 : Int32)), (2, .int (5 : Int32)), (0, .ref (a 0))]) hx hb dX0_countRepeated_18 hl (k := 1) rfl (by first | rfl | decide) (Nat.le_of_ble_eq_true rfl) rfl (fun ls hl => ?_)
            refine lv_iinc (v := (6 : Int32)) (lv' := [(2, .int (6 : Int32)), (1, .int (5 : Int32)), (0, .ref (a 0))]) hx hb dX0_countRepeated_21 hl (k := 1) rfl (by first | rfl | decide) (Nat.le_of_ble_eq_true rfl) rfl (fun ls hl => ?_)
            refine lv_goto (tgt := 4) hx hb dX0_countRepeated_24 (by decide) ?_
            refine lv_iload_n hx hb dX0_countRepeated_4 rfl (lv_at hl 0 rfl) ?_
            refine lv_bipush (v := (6 : Int32)) hx hb dX0_countRepeated_5 qb_6 ?_
            refine lv_icmp_ge (tgt := 27) hx hb dX0_countRepeated_7 (by decide) (fun _ => ?_) (fun c_x => absurd (show (6 : Int32) ≤ (6 : Int32) from by decide) c_x)
            refine lv_iload_n hx hb dX0_countRepeated_27 rfl (lv_at hl 1 rfl) ?_
            exact re_i hx hb hr hk dX0_countRepeated_28 (ei (Eq.trans (if_neg c_1) (Eq.trans (if_neg c_17) (Eq.trans (if_neg c_25) (Eq.trans (if_neg c_29) (if_neg c_31))))))

set_option maxRecDepth 100000 in
set_option maxHeartbeats 4000000 in
theorem c_X0_outermost (l : Launch) (G : GT) (a : Nat → Nat) (S : SX) (p0 : Int32) : RO l G yX0_outermost cX0_outermost 4 (some .int) 2 [.ref (a 0), .int p0] (wX G a S) (some (.int (fX0_outermost S p0))) := by
  refine RO.ofW (own := RX0) rfl (plainFor_of_name pnN_RX0) (Nat.le_of_ble_eq_true rfl) ?_
  intro p e s m below meth c C hr hk hE hP ls hl
  have hx := C.1
  have hb := C.2.1
  have hown := C.2.2.2.1
  have hw := C.2.2.2.2
  have hl : lv_has ls 4 [(0, .ref (a 0)), (1, .int p0)] := hl
  refine lv_iconst (v := (0 : Int32)) hx hb dX0_outermost_0 qi_0 ?_
  refine lv_istore_n (lv' := [(2, .int (0 : Int32)), (0, .ref (a 0)), (1, .int p0)]) hx hb dX0_outermost_1 rfl hl (Nat.le_of_ble_eq_true rfl) rfl (fun ls hl => ?_)
  refine lv_iconst (v := (1 : Int32)) hx hb dX0_outermost_2 qi_1 ?_
  refine lv_istore_n (lv' := [(3, .int (1 : Int32)), (2, .int (0 : Int32)), (0, .ref (a 0)), (1, .int p0)]) hx hb dX0_outermost_3 rfl hl (Nat.le_of_ble_eq_true rfl) rfl (fun ls hl => ?_)
  refine lv_iload_n hx hb dX0_outermost_4 rfl (lv_at hl 0 rfl) ?_
  refine lv_bipush (v := (6 : Int32)) hx hb dX0_outermost_5 qb_6 ?_
  refine lv_icmp_ge (tgt := 28) hx hb dX0_outermost_7 (by decide) (fun c_x => absurd c_x (by decide)) (fun _ => ?_)
  refine lv_aload_n hx hb dX0_outermost_10 rfl (lv_at hl 2 rfl) ?_
  refine lv_iload_n hx hb dX0_outermost_11 rfl (lv_at hl 0 rfl) ?_
  refine lv_iload_n hx hb dX0_outermost_12 rfl (lv_at hl 1 rfl) ?_
  refine rcVi (as := [.int (1 : Int32), .int (0 : Int32)]) (rest := []) (cl := RX0) C (c_X0_order l G a S (1 : Int32) (0 : Int32) (vp_in_lit 1) (vp_in_lit 0)) F_X0_order rfl bw236 bw238 bw9 hE hP (rv2 hE.K hP (q0 := 0) rfl) hl.1 dX0_outermost_13 ⟨Nat.le_of_ble_eq_true rfl, Nat.le_of_ble_eq_true rfl⟩ rfl (Nat.le_of_ble_eq_true rfl) ⟨Nat.zero_le _, Nat.zero_le _⟩ ?_
  refine lv_iload_n hx hb dX0_outermost_16 rfl (lv_at hl 3 rfl) ?_
  refine lv_icmp_ne (tgt := 22) hx hb dX0_outermost_17 (by decide) (fun c_1 => ?_) (fun c_1 => ?_)
  · refine lv_iinc (v := (2 : Int32)) (lv' := [(3, .int (2 : Int32)), (2, .int (0 : Int32)), (0, .ref (a 0)), (1, .int p0)]) hx hb dX0_outermost_22 hl (k := 0) rfl (by first | rfl | decide) (Nat.le_of_ble_eq_true rfl) rfl (fun ls hl => ?_)
    refine lv_goto (tgt := 4) hx hb dX0_outermost_25 (by decide) ?_
    refine lv_iload_n hx hb dX0_outermost_4 rfl (lv_at hl 0 rfl) ?_
    refine lv_bipush (v := (6 : Int32)) hx hb dX0_outermost_5 qb_6 ?_
    refine lv_icmp_ge (tgt := 28) hx hb dX0_outermost_7 (by decide) (fun c_x => absurd c_x (by decide)) (fun _ => ?_)
    refine lv_aload_n hx hb dX0_outermost_10 rfl (lv_at hl 2 rfl) ?_
    refine lv_iload_n hx hb dX0_outermost_11 rfl (lv_at hl 0 rfl) ?_
    refine lv_iload_n hx hb dX0_outermost_12 rfl (lv_at hl 1 rfl) ?_
    refine rcVi (as := [.int (2 : Int32), .int (0 : Int32)]) (rest := []) (cl := RX0) C (c_X0_order l G a S (2 : Int32) (0 : Int32) (vp_in_lit 2) (vp_in_lit 0)) F_X0_order rfl bw236 bw238 bw9 hE hP (rv2 hE.K hP (q0 := 0) rfl) hl.1 dX0_outermost_13 ⟨Nat.le_of_ble_eq_true rfl, Nat.le_of_ble_eq_true rfl⟩ rfl (Nat.le_of_ble_eq_true rfl) ⟨Nat.zero_le _, Nat.zero_le _⟩ ?_
    refine lv_iload_n hx hb dX0_outermost_16 rfl (lv_at hl 3 rfl) ?_
    refine lv_icmp_ne (tgt := 22) hx hb dX0_outermost_17 (by decide) (fun c_2 => ?_) (fun c_2 => ?_)
    · refine lv_iinc (v := (3 : Int32)) (lv' := [(3, .int (3 : Int32)), (2, .int (0 : Int32)), (0, .ref (a 0)), (1, .int p0)]) hx hb dX0_outermost_22 hl (k := 0) rfl (by first | rfl | decide) (Nat.le_of_ble_eq_true rfl) rfl (fun ls hl => ?_)
      refine lv_goto (tgt := 4) hx hb dX0_outermost_25 (by decide) ?_
      refine lv_iload_n hx hb dX0_outermost_4 rfl (lv_at hl 0 rfl) ?_
      refine lv_bipush (v := (6 : Int32)) hx hb dX0_outermost_5 qb_6 ?_
      refine lv_icmp_ge (tgt := 28) hx hb dX0_outermost_7 (by decide) (fun c_x => absurd c_x (by decide)) (fun _ => ?_)
      refine lv_aload_n hx hb dX0_outermost_10 rfl (lv_at hl 2 rfl) ?_
      refine lv_iload_n hx hb dX0_outermost_11 rfl (lv_at hl 0 rfl) ?_
      refine lv_iload_n hx hb dX0_outermost_12 rfl (lv_at hl 1 rfl) ?_
      refine rcVi (as := [.int (3 : Int32), .int (0 : Int32)]) (rest := []) (cl := RX0) C (c_X0_order l G a S (3 : Int32) (0 : Int32) (vp_in_lit 3) (vp_in_lit 0)) F_X0_order rfl bw236 bw238 bw9 hE hP (rv2 hE.K hP (q0 := 0) rfl) hl.1 dX0_outermost_13 ⟨Nat.le_of_ble_eq_true rfl, Nat.le_of_ble_eq_true rfl⟩ rfl (Nat.le_of_ble_eq_true rfl) ⟨Nat.zero_le _, Nat.zero_le _⟩ ?_
      refine lv_iload_n hx hb dX0_outermost_16 rfl (lv_at hl 3 rfl) ?_
      refine lv_icmp_ne (tgt := 22) hx hb dX0_outermost_17 (by decide) (fun c_3 => ?_) (fun c_3 => ?_)
      · refine lv_iinc (v := (4 : Int32)) (lv' := [(3, .int (4 : Int32)), (2, .int (0 : Int32)), (0, .ref (a 0)), (1, .int p0)]) hx hb dX0_outermost_22 hl (k := 0) rfl (by first | rfl | decide) (Nat.le_of_ble_eq_true rfl) rfl (fun ls hl => ?_)
        refine lv_goto (tgt := 4) hx hb dX0_outermost_25 (by decide) ?_
        refine lv_iload_n hx hb dX0_outermost_4 rfl (lv_at hl 0 rfl) ?_
        refine lv_bipush (v := (6 : Int32)) hx hb dX0_outermost_5 qb_6 ?_
        refine lv_icmp_ge (tgt := 28) hx hb dX0_outermost_7 (by decide) (fun c_x => absurd c_x (by decide)) (fun _ => ?_)
        refine lv_aload_n hx hb dX0_outermost_10 rfl (lv_at hl 2 rfl) ?_
        refine lv_iload_n hx hb dX0_outermost_11 rfl (lv_at hl 0 rfl) ?_
        refine lv_iload_n hx hb dX0_outermost_12 rfl (lv_at hl 1 rfl) ?_
        refine rcVi (as := [.int (4 : Int32), .int (0 : Int32)]) (rest := []) (cl := RX0) C (c_X0_order l G a S (4 : Int32) (0 : Int32) (vp_in_lit 4) (vp_in_lit 0)) F_X0_order rfl bw236 bw238 bw9 hE hP (rv2 hE.K hP (q0 := 0) rfl) hl.1 dX0_outermost_13 ⟨Nat.le_of_ble_eq_true rfl, Nat.le_of_ble_eq_true rfl⟩ rfl (Nat.le_of_ble_eq_true rfl) ⟨Nat.zero_le _, Nat.zero_le _⟩ ?_
        refine lv_iload_n hx hb dX0_outermost_16 rfl (lv_at hl 3 rfl) ?_
        refine lv_icmp_ne (tgt := 22) hx hb dX0_outermost_17 (by decide) (fun c_4 => ?_) (fun c_4 => ?_)
        · refine lv_iinc (v := (5 : Int32)) (lv' := [(3, .int (5 : Int32)), (2, .int (0 : Int32)), (0, .ref (a 0)), (1, .int p0)]) hx hb dX0_outermost_22 hl (k := 0) rfl (by first | rfl | decide) (Nat.le_of_ble_eq_true rfl) rfl (fun ls hl => ?_)
          refine lv_goto (tgt := 4) hx hb dX0_outermost_25 (by decide) ?_
          refine lv_iload_n hx hb dX0_outermost_4 rfl (lv_at hl 0 rfl) ?_
          refine lv_bipush (v := (6 : Int32)) hx hb dX0_outermost_5 qb_6 ?_
          refine lv_icmp_ge (tgt := 28) hx hb dX0_outermost_7 (by decide) (fun c_x => absurd c_x (by decide)) (fun _ => ?_)
          refine lv_aload_n hx hb dX0_outermost_10 rfl (lv_at hl 2 rfl) ?_
          refine lv_iload_n hx hb dX0_outermost_11 rfl (lv_at hl 0 rfl) ?_
          refine lv_iload_n hx hb dX0_outermost_12 rfl (lv_at hl 1 rfl) ?_
          refine rcVi (as := [.int (5 : Int32), .int (0 : Int32)]) (rest := []) (cl := RX0) C (c_X0_order l G a S (5 : Int32) (0 : Int32) (vp_in_lit 5) (vp_in_lit 0)) F_X0_order rfl bw236 bw238 bw9 hE hP (rv2 hE.K hP (q0 := 0) rfl) hl.1 dX0_outermost_13 ⟨Nat.le_of_ble_eq_true rfl, Nat.le_of_ble_eq_true rfl⟩ rfl (Nat.le_of_ble_eq_true rfl) ⟨Nat.zero_le _, Nat.zero_le _⟩ ?_
          refine lv_iload_n hx hb dX0_outermost_16 rfl (lv_at hl 3 rfl) ?_
          refine lv_icmp_ne (tgt := 22) hx hb dX0_outermost_17 (by decide) (fun c_5 => ?_) (fun c_5 => ?_)
          · refine lv_iinc (v := (6 : Int32)) (lv' := [(3, .int (6 : Int32)), (2, .int (0 : Int32)), (0, .ref (a 0)), (1, .int p0)]) hx hb dX0_outermost_22 hl (k := 0) rfl (by first | rfl | decide) (Nat.le_of_ble_eq_true rfl) rfl (fun ls hl => ?_)
            refine lv_goto (tgt := 4) hx hb dX0_outermost_25 (by decide) ?_
            refine lv_iload_n hx hb dX0_outermost_4 rfl (lv_at hl 0 rfl) ?_
            refine lv_bipush (v := (6 : Int32)) hx hb dX0_outermost_5 qb_6 ?_
            refine lv_icmp_ge (tgt := 28) hx hb dX0_outermost_7 (by decide) (fun _ => ?_) (fun c_x => absurd (show (6 : Int32) ≤ (6 : Int32) from by decide) c_x)
            refine lv_iload_n hx hb dX0_outermost_28 rfl (lv_at hl 1 rfl) ?_
            exact re_i hx hb hr hk dX0_outermost_29 (ei (Eq.trans (if_neg c_1) (Eq.trans (if_neg c_2) (Eq.trans (if_neg c_3) (Eq.trans (if_neg c_4) (if_neg c_5))))))
          · refine lv_iload_n hx hb dX0_outermost_20 rfl (lv_at hl 0 rfl) ?_
            refine lv_istore_n (lv' := [(2, .int (5 : Int32)), (3, .int (5 : Int32)), (0, .ref (a 0)), (1, .int p0)]) hx hb dX0_outermost_21 rfl hl (Nat.le_of_ble_eq_true rfl) rfl (fun ls hl => ?_)
            refine lv_iinc (v := (6 : Int32)) (lv' := [(3, .int (6 : Int32)), (2, .int (5 : Int32)), (0, .ref (a 0)), (1, .int p0)]) hx hb dX0_outermost_22 hl (k := 1) rfl (by first | rfl | decide) (Nat.le_of_ble_eq_true rfl) rfl (fun ls hl => ?_)
            refine lv_goto (tgt := 4) hx hb dX0_outermost_25 (by decide) ?_
            refine lv_iload_n hx hb dX0_outermost_4 rfl (lv_at hl 0 rfl) ?_
            refine lv_bipush (v := (6 : Int32)) hx hb dX0_outermost_5 qb_6 ?_
            refine lv_icmp_ge (tgt := 28) hx hb dX0_outermost_7 (by decide) (fun _ => ?_) (fun c_x => absurd (show (6 : Int32) ≤ (6 : Int32) from by decide) c_x)
            refine lv_iload_n hx hb dX0_outermost_28 rfl (lv_at hl 1 rfl) ?_
            exact re_i hx hb hr hk dX0_outermost_29 (ei (Eq.trans (if_neg c_1) (Eq.trans (if_neg c_2) (Eq.trans (if_neg c_3) (Eq.trans (if_neg c_4) (if_pos c_5))))))
        · refine lv_iload_n hx hb dX0_outermost_20 rfl (lv_at hl 0 rfl) ?_
          refine lv_istore_n (lv' := [(2, .int (4 : Int32)), (3, .int (4 : Int32)), (0, .ref (a 0)), (1, .int p0)]) hx hb dX0_outermost_21 rfl hl (Nat.le_of_ble_eq_true rfl) rfl (fun ls hl => ?_)
          refine lv_iinc (v := (5 : Int32)) (lv' := [(3, .int (5 : Int32)), (2, .int (4 : Int32)), (0, .ref (a 0)), (1, .int p0)]) hx hb dX0_outermost_22 hl (k := 1) rfl (by first | rfl | decide) (Nat.le_of_ble_eq_true rfl) rfl (fun ls hl => ?_)
          refine lv_goto (tgt := 4) hx hb dX0_outermost_25 (by decide) ?_
          refine lv_iload_n hx hb dX0_outermost_4 rfl (lv_at hl 0 rfl) ?_
          refine lv_bipush (v := (6 : Int32)) hx hb dX0_outermost_5 qb_6 ?_
          refine lv_icmp_ge (tgt := 28) hx hb dX0_outermost_7 (by decide) (fun c_x => absurd c_x (by decide)) (fun _ => ?_)
          refine lv_aload_n hx hb dX0_outermost_10 rfl (lv_at hl 2 rfl) ?_
          refine lv_iload_n hx hb dX0_outermost_11 rfl (lv_at hl 0 rfl) ?_
          refine lv_iload_n hx hb dX0_outermost_12 rfl (lv_at hl 1 rfl) ?_
          refine rcVi (as := [.int (5 : Int32), .int (4 : Int32)]) (rest := []) (cl := RX0) C (c_X0_order l G a S (5 : Int32) (4 : Int32) (vp_in_lit 5) (vp_in_lit 4)) F_X0_order rfl bw236 bw238 bw9 hE hP (rv2 hE.K hP (q0 := 0) rfl) hl.1 dX0_outermost_13 ⟨Nat.le_of_ble_eq_true rfl, Nat.le_of_ble_eq_true rfl⟩ rfl (Nat.le_of_ble_eq_true rfl) ⟨Nat.zero_le _, Nat.zero_le _⟩ ?_
          refine lv_iload_n hx hb dX0_outermost_16 rfl (lv_at hl 3 rfl) ?_
          refine lv_icmp_ne (tgt := 22) hx hb dX0_outermost_17 (by decide) (fun c_6 => ?_) (fun c_6 => ?_)
          · refine lv_iinc (v := (6 : Int32)) (lv' := [(3, .int (6 : Int32)), (2, .int (4 : Int32)), (0, .ref (a 0)), (1, .int p0)]) hx hb dX0_outermost_22 hl (k := 0) rfl (by first | rfl | decide) (Nat.le_of_ble_eq_true rfl) rfl (fun ls hl => ?_)
            refine lv_goto (tgt := 4) hx hb dX0_outermost_25 (by decide) ?_
            refine lv_iload_n hx hb dX0_outermost_4 rfl (lv_at hl 0 rfl) ?_
            refine lv_bipush (v := (6 : Int32)) hx hb dX0_outermost_5 qb_6 ?_
            refine lv_icmp_ge (tgt := 28) hx hb dX0_outermost_7 (by decide) (fun _ => ?_) (fun c_x => absurd (show (6 : Int32) ≤ (6 : Int32) from by decide) c_x)
            refine lv_iload_n hx hb dX0_outermost_28 rfl (lv_at hl 1 rfl) ?_
            exact re_i hx hb hr hk dX0_outermost_29 (ei (Eq.trans (if_neg c_1) (Eq.trans (if_neg c_2) (Eq.trans (if_neg c_3) (Eq.trans (if_pos c_4) (if_neg c_6))))))
          · refine lv_iload_n hx hb dX0_outermost_20 rfl (lv_at hl 0 rfl) ?_
            refine lv_istore_n (lv' := [(2, .int (5 : Int32)), (3, .int (5 : Int32)), (0, .ref (a 0)), (1, .int p0)]) hx hb dX0_outermost_21 rfl hl (Nat.le_of_ble_eq_true rfl) rfl (fun ls hl => ?_)
            refine lv_iinc (v := (6 : Int32)) (lv' := [(3, .int (6 : Int32)), (2, .int (5 : Int32)), (0, .ref (a 0)), (1, .int p0)]) hx hb dX0_outermost_22 hl (k := 1) rfl (by first | rfl | decide) (Nat.le_of_ble_eq_true rfl) rfl (fun ls hl => ?_)
            refine lv_goto (tgt := 4) hx hb dX0_outermost_25 (by decide) ?_
            refine lv_iload_n hx hb dX0_outermost_4 rfl (lv_at hl 0 rfl) ?_
            refine lv_bipush (v := (6 : Int32)) hx hb dX0_outermost_5 qb_6 ?_
            refine lv_icmp_ge (tgt := 28) hx hb dX0_outermost_7 (by decide) (fun _ => ?_) (fun c_x => absurd (show (6 : Int32) ≤ (6 : Int32) from by decide) c_x)
            refine lv_iload_n hx hb dX0_outermost_28 rfl (lv_at hl 1 rfl) ?_
            exact re_i hx hb hr hk dX0_outermost_29 (ei (Eq.trans (if_neg c_1) (Eq.trans (if_neg c_2) (Eq.trans (if_neg c_3) (Eq.trans (if_pos c_4) (if_pos c_6))))))
      · refine lv_iload_n hx hb dX0_outermost_20 rfl (lv_at hl 0 rfl) ?_
        refine lv_istore_n (lv' := [(2, .int (3 : Int32)), (3, .int (3 : Int32)), (0, .ref (a 0)), (1, .int p0)]) hx hb dX0_outermost_21 rfl hl (Nat.le_of_ble_eq_true rfl) rfl (fun ls hl => ?_)
        refine lv_iinc (v := (4 : Int32)) (lv' := [(3, .int (4 : Int32)), (2, .int (3 : Int32)), (0, .ref (a 0)), (1, .int p0)]) hx hb dX0_outermost_22 hl (k := 1) rfl (by first | rfl | decide) (Nat.le_of_ble_eq_true rfl) rfl (fun ls hl => ?_)
        refine lv_goto (tgt := 4) hx hb dX0_outermost_25 (by decide) ?_
        refine lv_iload_n hx hb dX0_outermost_4 rfl (lv_at hl 0 rfl) ?_
        refine lv_bipush (v := (6 : Int32)) hx hb dX0_outermost_5 qb_6 ?_
        refine lv_icmp_ge (tgt := 28) hx hb dX0_outermost_7 (by decide) (fun c_x => absurd c_x (by decide)) (fun _ => ?_)
        refine lv_aload_n hx hb dX0_outermost_10 rfl (lv_at hl 2 rfl) ?_
        refine lv_iload_n hx hb dX0_outermost_11 rfl (lv_at hl 0 rfl) ?_
        refine lv_iload_n hx hb dX0_outermost_12 rfl (lv_at hl 1 rfl) ?_
        refine rcVi (as := [.int (4 : Int32), .int (3 : Int32)]) (rest := []) (cl := RX0) C (c_X0_order l G a S (4 : Int32) (3 : Int32) (vp_in_lit 4) (vp_in_lit 3)) F_X0_order rfl bw236 bw238 bw9 hE hP (rv2 hE.K hP (q0 := 0) rfl) hl.1 dX0_outermost_13 ⟨Nat.le_of_ble_eq_true rfl, Nat.le_of_ble_eq_true rfl⟩ rfl (Nat.le_of_ble_eq_true rfl) ⟨Nat.zero_le _, Nat.zero_le _⟩ ?_
        refine lv_iload_n hx hb dX0_outermost_16 rfl (lv_at hl 3 rfl) ?_
        refine lv_icmp_ne (tgt := 22) hx hb dX0_outermost_17 (by decide) (fun c_7 => ?_) (fun c_7 => ?_)
        · refine lv_iinc (v := (5 : Int32)) (lv' := [(3, .int (5 : Int32)), (2, .int (3 : Int32)), (0, .ref (a 0)), (1, .int p0)]) hx hb dX0_outermost_22 hl (k := 0) rfl (by first | rfl | decide) (Nat.le_of_ble_eq_true rfl) rfl (fun ls hl => ?_)
          refine lv_goto (tgt := 4) hx hb dX0_outermost_25 (by decide) ?_
          refine lv_iload_n hx hb dX0_outermost_4 rfl (lv_at hl 0 rfl) ?_
          refine lv_bipush (v := (6 : Int32)) hx hb dX0_outermost_5 qb_6 ?_
          refine lv_icmp_ge (tgt := 28) hx hb dX0_outermost_7 (by decide) (fun c_x => absurd c_x (by decide)) (fun _ => ?_)
          refine lv_aload_n hx hb dX0_outermost_10 rfl (lv_at hl 2 rfl) ?_
          refine lv_iload_n hx hb dX0_outermost_11 rfl (lv_at hl 0 rfl) ?_
          refine lv_iload_n hx hb dX0_outermost_12 rfl (lv_at hl 1 rfl) ?_
          refine rcVi (as := [.int (5 : Int32), .int (3 : Int32)]) (rest := []) (cl := RX0) C (c_X0_order l G a S (5 : Int32) (3 : Int32) (vp_in_lit 5) (vp_in_lit 3)) F_X0_order rfl bw236 bw238 bw9 hE hP (rv2 hE.K hP (q0 := 0) rfl) hl.1 dX0_outermost_13 ⟨Nat.le_of_ble_eq_true rfl, Nat.le_of_ble_eq_true rfl⟩ rfl (Nat.le_of_ble_eq_true rfl) ⟨Nat.zero_le _, Nat.zero_le _⟩ ?_
          refine lv_iload_n hx hb dX0_outermost_16 rfl (lv_at hl 3 rfl) ?_
          refine lv_icmp_ne (tgt := 22) hx hb dX0_outermost_17 (by decide) (fun c_8 => ?_) (fun c_8 => ?_)
          · refine lv_iinc (v := (6 : Int32)) (lv' := [(3, .int (6 : Int32)), (2, .int (3 : Int32)), (0, .ref (a 0)), (1, .int p0)]) hx hb dX0_outermost_22 hl (k := 0) rfl (by first | rfl | decide) (Nat.le_of_ble_eq_true rfl) rfl (fun ls hl => ?_)
            refine lv_goto (tgt := 4) hx hb dX0_outermost_25 (by decide) ?_
            refine lv_iload_n hx hb dX0_outermost_4 rfl (lv_at hl 0 rfl) ?_
            refine lv_bipush (v := (6 : Int32)) hx hb dX0_outermost_5 qb_6 ?_
            refine lv_icmp_ge (tgt := 28) hx hb dX0_outermost_7 (by decide) (fun _ => ?_) (fun c_x => absurd (show (6 : Int32) ≤ (6 : Int32) from by decide) c_x)
            refine lv_iload_n hx hb dX0_outermost_28 rfl (lv_at hl 1 rfl) ?_
            exact re_i hx hb hr hk dX0_outermost_29 (ei (Eq.trans (if_neg c_1) (Eq.trans (if_neg c_2) (Eq.trans (if_pos c_3) (Eq.trans (if_neg c_7) (if_neg c_8))))))
          · refine lv_iload_n hx hb dX0_outermost_20 rfl (lv_at hl 0 rfl) ?_
            refine lv_istore_n (lv' := [(2, .int (5 : Int32)), (3, .int (5 : Int32)), (0, .ref (a 0)), (1, .int p0)]) hx hb dX0_outermost_21 rfl hl (Nat.le_of_ble_eq_true rfl) rfl (fun ls hl => ?_)
            refine lv_iinc (v := (6 : Int32)) (lv' := [(3, .int (6 : Int32)), (2, .int (5 : Int32)), (0, .ref (a 0)), (1, .int p0)]) hx hb dX0_outermost_22 hl (k := 1) rfl (by first | rfl | decide) (Nat.le_of_ble_eq_true rfl) rfl (fun ls hl => ?_)
            refine lv_goto (tgt := 4) hx hb dX0_outermost_25 (by decide) ?_
            refine lv_iload_n hx hb dX0_outermost_4 rfl (lv_at hl 0 rfl) ?_
            refine lv_bipush (v := (6 : Int32)) hx hb dX0_outermost_5 qb_6 ?_
            refine lv_icmp_ge (tgt := 28) hx hb dX0_outermost_7 (by decide) (fun _ => ?_) (fun c_x => absurd (show (6 : Int32) ≤ (6 : Int32) from by decide) c_x)
            refine lv_iload_n hx hb dX0_outermost_28 rfl (lv_at hl 1 rfl) ?_
            exact re_i hx hb hr hk dX0_outermost_29 (ei (Eq.trans (if_neg c_1) (Eq.trans (if_neg c_2) (Eq.trans (if_pos c_3) (Eq.trans (if_neg c_7) (if_pos c_8))))))
        · refine lv_iload_n hx hb dX0_outermost_20 rfl (lv_at hl 0 rfl) ?_
          refine lv_istore_n (lv' := [(2, .int (4 : Int32)), (3, .int (4 : Int32)), (0, .ref (a 0)), (1, .int p0)]) hx hb dX0_outermost_21 rfl hl (Nat.le_of_ble_eq_true rfl) rfl (fun ls hl => ?_)
          refine lv_iinc (v := (5 : Int32)) (lv' := [(3, .int (5 : Int32)), (2, .int (4 : Int32)), (0, .ref (a 0)), (1, .int p0)]) hx hb dX0_outermost_22 hl (k := 1) rfl (by first | rfl | decide) (Nat.le_of_ble_eq_true rfl) rfl (fun ls hl => ?_)
          refine lv_goto (tgt := 4) hx hb dX0_outermost_25 (by decide) ?_
          refine lv_iload_n hx hb dX0_outermost_4 rfl (lv_at hl 0 rfl) ?_
          refine lv_bipush (v := (6 : Int32)) hx hb dX0_outermost_5 qb_6 ?_
          refine lv_icmp_ge (tgt := 28) hx hb dX0_outermost_7 (by decide) (fun c_x => absurd c_x (by decide)) (fun _ => ?_)
          refine lv_aload_n hx hb dX0_outermost_10 rfl (lv_at hl 2 rfl) ?_
          refine lv_iload_n hx hb dX0_outermost_11 rfl (lv_at hl 0 rfl) ?_
          refine lv_iload_n hx hb dX0_outermost_12 rfl (lv_at hl 1 rfl) ?_
          refine rcVi (as := [.int (5 : Int32), .int (4 : Int32)]) (rest := []) (cl := RX0) C (c_X0_order l G a S (5 : Int32) (4 : Int32) (vp_in_lit 5) (vp_in_lit 4)) F_X0_order rfl bw236 bw238 bw9 hE hP (rv2 hE.K hP (q0 := 0) rfl) hl.1 dX0_outermost_13 ⟨Nat.le_of_ble_eq_true rfl, Nat.le_of_ble_eq_true rfl⟩ rfl (Nat.le_of_ble_eq_true rfl) ⟨Nat.zero_le _, Nat.zero_le _⟩ ?_
          refine lv_iload_n hx hb dX0_outermost_16 rfl (lv_at hl 3 rfl) ?_
          refine lv_icmp_ne (tgt := 22) hx hb dX0_outermost_17 (by decide) (fun c_9 => ?_) (fun c_9 => ?_)
          · refine lv_iinc (v := (6 : Int32)) (lv' := [(3, .int (6 : Int32)), (2, .int (4 : Int32)), (0, .ref (a 0)), (1, .int p0)]) hx hb dX0_outermost_22 hl (k := 0) rfl (by first | rfl | decide) (Nat.le_of_ble_eq_true rfl) rfl (fun ls hl => ?_)
            refine lv_goto (tgt := 4) hx hb dX0_outermost_25 (by decide) ?_
            refine lv_iload_n hx hb dX0_outermost_4 rfl (lv_at hl 0 rfl) ?_
            refine lv_bipush (v := (6 : Int32)) hx hb dX0_outermost_5 qb_6 ?_
            refine lv_icmp_ge (tgt := 28) hx hb dX0_outermost_7 (by decide) (fun _ => ?_) (fun c_x => absurd (show (6 : Int32) ≤ (6 : Int32) from by decide) c_x)
            refine lv_iload_n hx hb dX0_outermost_28 rfl (lv_at hl 1 rfl) ?_
            exact re_i hx hb hr hk dX0_outermost_29 (ei (Eq.trans (if_neg c_1) (Eq.trans (if_neg c_2) (Eq.trans (if_pos c_3) (Eq.trans (if_pos c_7) (if_neg c_9))))))
          · refine lv_iload_n hx hb dX0_outermost_20 rfl (lv_at hl 0 rfl) ?_
            refine lv_istore_n (lv' := [(2, .int (5 : Int32)), (3, .int (5 : Int32)), (0, .ref (a 0)), (1, .int p0)]) hx hb dX0_outermost_21 rfl hl (Nat.le_of_ble_eq_true rfl) rfl (fun ls hl => ?_)
            refine lv_iinc (v := (6 : Int32)) (lv' := [(3, .int (6 : Int32)), (2, .int (5 : Int32)), (0, .ref (a 0)), (1, .int p0)]) hx hb dX0_outermost_22 hl (k := 1) rfl (by first | rfl | decide) (Nat.le_of_ble_eq_true rfl) rfl (fun ls hl => ?_)
            refine lv_goto (tgt := 4) hx hb dX0_outermost_25 (by decide) ?_
            refine lv_iload_n hx hb dX0_outermost_4 rfl (lv_at hl 0 rfl) ?_
            refine lv_bipush (v := (6 : Int32)) hx hb dX0_outermost_5 qb_6 ?_
            refine lv_icmp_ge (tgt := 28) hx hb dX0_outermost_7 (by decide) (fun _ => ?_) (fun c_x => absurd (show (6 : Int32) ≤ (6 : Int32) from by decide) c_x)
            refine lv_iload_n hx hb dX0_outermost_28 rfl (lv_at hl 1 rfl) ?_
            exact re_i hx hb hr hk dX0_outermost_29 (ei (Eq.trans (if_neg c_1) (Eq.trans (if_neg c_2) (Eq.trans (if_pos c_3) (Eq.trans (if_pos c_7) (if_pos c_9))))))
    · refine lv_iload_n hx hb dX0_outermost_20 rfl (lv_at hl 0 rfl) ?_
      refine lv_istore_n (lv' := [(2, .int (2 : Int32)), (3, .int (2 : Int32)), (0, .ref (a 0)), (1, .int p0)]) hx hb dX0_outermost_21 rfl hl (Nat.le_of_ble_eq_true rfl) rfl (fun ls hl => ?_)
      refine lv_iinc (v := (3 : Int32)) (lv' := [(3, .int (3 : Int32)), (2, .int (2 : Int32)), (0, .ref (a 0)), (1, .int p0)]) hx hb dX0_outermost_22 hl (k := 1) rfl (by first | rfl | decide) (Nat.le_of_ble_eq_true rfl) rfl (fun ls hl => ?_)
      refine lv_goto (tgt := 4) hx hb dX0_outermost_25 (by decide) ?_
      refine lv_iload_n hx hb dX0_outermost_4 rfl (lv_at hl 0 rfl) ?_
      refine lv_bipush (v := (6 : Int32)) hx hb dX0_outermost_5 qb_6 ?_
      refine lv_icmp_ge (tgt := 28) hx hb dX0_outermost_7 (by decide) (fun c_x => absurd c_x (by decide)) (fun _ => ?_)
      refine lv_aload_n hx hb dX0_outermost_10 rfl (lv_at hl 2 rfl) ?_
      refine lv_iload_n hx hb dX0_outermost_11 rfl (lv_at hl 0 rfl) ?_
      refine lv_iload_n hx hb dX0_outermost_12 rfl (lv_at hl 1 rfl) ?_
      refine rcVi (as := [.int (3 : Int32), .int (2 : Int32)]) (rest := []) (cl := RX0) C (c_X0_order l G a S (3 : Int32) (2 : Int32) (vp_in_lit 3) (vp_in_lit 2)) F_X0_order rfl bw236 bw238 bw9 hE hP (rv2 hE.K hP (q0 := 0) rfl) hl.1 dX0_outermost_13 ⟨Nat.le_of_ble_eq_true rfl, Nat.le_of_ble_eq_true rfl⟩ rfl (Nat.le_of_ble_eq_true rfl) ⟨Nat.zero_le _, Nat.zero_le _⟩ ?_
      refine lv_iload_n hx hb dX0_outermost_16 rfl (lv_at hl 3 rfl) ?_
      refine lv_icmp_ne (tgt := 22) hx hb dX0_outermost_17 (by decide) (fun c_10 => ?_) (fun c_10 => ?_)
      · refine lv_iinc (v := (4 : Int32)) (lv' := [(3, .int (4 : Int32)), (2, .int (2 : Int32)), (0, .ref (a 0)), (1, .int p0)]) hx hb dX0_outermost_22 hl (k := 0) rfl (by first | rfl | decide) (Nat.le_of_ble_eq_true rfl) rfl (fun ls hl => ?_)
        refine lv_goto (tgt := 4) hx hb dX0_outermost_25 (by decide) ?_
        refine lv_iload_n hx hb dX0_outermost_4 rfl (lv_at hl 0 rfl) ?_
        refine lv_bipush (v := (6 : Int32)) hx hb dX0_outermost_5 qb_6 ?_
        refine lv_icmp_ge (tgt := 28) hx hb dX0_outermost_7 (by decide) (fun c_x => absurd c_x (by decide)) (fun _ => ?_)
        refine lv_aload_n hx hb dX0_outermost_10 rfl (lv_at hl 2 rfl) ?_
        refine lv_iload_n hx hb dX0_outermost_11 rfl (lv_at hl 0 rfl) ?_
        refine lv_iload_n hx hb dX0_outermost_12 rfl (lv_at hl 1 rfl) ?_
        refine rcVi (as := [.int (4 : Int32), .int (2 : Int32)]) (rest := []) (cl := RX0) C (c_X0_order l G a S (4 : Int32) (2 : Int32) (vp_in_lit 4) (vp_in_lit 2)) F_X0_order rfl bw236 bw238 bw9 hE hP (rv2 hE.K hP (q0 := 0) rfl) hl.1 dX0_outermost_13 ⟨Nat.le_of_ble_eq_true rfl, Nat.le_of_ble_eq_true rfl⟩ rfl (Nat.le_of_ble_eq_true rfl) ⟨Nat.zero_le _, Nat.zero_le _⟩ ?_
        refine lv_iload_n hx hb dX0_outermost_16 rfl (lv_at hl 3 rfl) ?_
        refine lv_icmp_ne (tgt := 22) hx hb dX0_outermost_17 (by decide) (fun c_11 => ?_) (fun c_11 => ?_)
        · refine lv_iinc (v := (5 : Int32)) (lv' := [(3, .int (5 : Int32)), (2, .int (2 : Int32)), (0, .ref (a 0)), (1, .int p0)]) hx hb dX0_outermost_22 hl (k := 0) rfl (by first | rfl | decide) (Nat.le_of_ble_eq_true rfl) rfl (fun ls hl => ?_)
          refine lv_goto (tgt := 4) hx hb dX0_outermost_25 (by decide) ?_
          refine lv_iload_n hx hb dX0_outermost_4 rfl (lv_at hl 0 rfl) ?_
          refine lv_bipush (v := (6 : Int32)) hx hb dX0_outermost_5 qb_6 ?_
          refine lv_icmp_ge (tgt := 28) hx hb dX0_outermost_7 (by decide) (fun c_x => absurd c_x (by decide)) (fun _ => ?_)
          refine lv_aload_n hx hb dX0_outermost_10 rfl (lv_at hl 2 rfl) ?_
          refine lv_iload_n hx hb dX0_outermost_11 rfl (lv_at hl 0 rfl) ?_
          refine lv_iload_n hx hb dX0_outermost_12 rfl (lv_at hl 1 rfl) ?_
          refine rcVi (as := [.int (5 : Int32), .int (2 : Int32)]) (rest := []) (cl := RX0) C (c_X0_order l G a S (5 : Int32) (2 : Int32) (vp_in_lit 5) (vp_in_lit 2)) F_X0_order rfl bw236 bw238 bw9 hE hP (rv2 hE.K hP (q0 := 0) rfl) hl.1 dX0_outermost_13 ⟨Nat.le_of_ble_eq_true rfl, Nat.le_of_ble_eq_true rfl⟩ rfl (Nat.le_of_ble_eq_true rfl) ⟨Nat.zero_le _, Nat.zero_le _⟩ ?_
          refine lv_iload_n hx hb dX0_outermost_16 rfl (lv_at hl 3 rfl) ?_
          refine lv_icmp_ne (tgt := 22) hx hb dX0_outermost_17 (by decide) (fun c_12 => ?_) (fun c_12 => ?_)
          · refine lv_iinc (v := (6 : Int32)) (lv' := [(3, .int (6 : Int32)), (2, .int (2 : Int32)), (0, .ref (a 0)), (1, .int p0)]) hx hb dX0_outermost_22 hl (k := 0) rfl (by first | rfl | decide) (Nat.le_of_ble_eq_true rfl) rfl (fun ls hl => ?_)
            refine lv_goto (tgt := 4) hx hb dX0_outermost_25 (by decide) ?_
            refine lv_iload_n hx hb dX0_outermost_4 rfl (lv_at hl 0 rfl) ?_
            refine lv_bipush (v := (6 : Int32)) hx hb dX0_outermost_5 qb_6 ?_
            refine lv_icmp_ge (tgt := 28) hx hb dX0_outermost_7 (by decide) (fun _ => ?_) (fun c_x => absurd (show (6 : Int32) ≤ (6 : Int32) from by decide) c_x)
            refine lv_iload_n hx hb dX0_outermost_28 rfl (lv_at hl 1 rfl) ?_
            exact re_i hx hb hr hk dX0_outermost_29 (ei (Eq.trans (if_neg c_1) (Eq.trans (if_pos c_2) (Eq.trans (if_neg c_10) (Eq.trans (if_neg c_11) (if_neg c_12))))))
          · refine lv_iload_n hx hb dX0_outermost_20 rfl (lv_at hl 0 rfl) ?_
            refine lv_istore_n (lv' := [(2, .int (5 : Int32)), (3, .int (5 : Int32)), (0, .ref (a 0)), (1, .int p0)]) hx hb dX0_outermost_21 rfl hl (Nat.le_of_ble_eq_true rfl) rfl (fun ls hl => ?_)
            refine lv_iinc (v := (6 : Int32)) (lv' := [(3, .int (6 : Int32)), (2, .int (5 : Int32)), (0, .ref (a 0)), (1, .int p0)]) hx hb dX0_outermost_22 hl (k := 1) rfl (by first | rfl | decide) (Nat.le_of_ble_eq_true rfl) rfl (fun ls hl => ?_)
            refine lv_goto (tgt := 4) hx hb dX0_outermost_25 (by decide) ?_
            refine lv_iload_n hx hb dX0_outermost_4 rfl (lv_at hl 0 rfl) ?_
            refine lv_bipush (v := (6 : Int32)) hx hb dX0_outermost_5 qb_6 ?_
            refine lv_icmp_ge (tgt := 28) hx hb dX0_outermost_7 (by decide) (fun _ => ?_) (fun c_x => absurd (show (6 : Int32) ≤ (6 : Int32) from by decide) c_x)
            refine lv_iload_n hx hb dX0_outermost_28 rfl (lv_at hl 1 rfl) ?_
            exact re_i hx hb hr hk dX0_outermost_29 (ei (Eq.trans (if_neg c_1) (Eq.trans (if_pos c_2) (Eq.trans (if_neg c_10) (Eq.trans (if_neg c_11) (if_pos c_12))))))
        · refine lv_iload_n hx hb dX0_outermost_20 rfl (lv_at hl 0 rfl) ?_
          refine lv_istore_n (lv' := [(2, .int (4 : Int32)), (3, .int (4 : Int32)), (0, .ref (a 0)), (1, .int p0)]) hx hb dX0_outermost_21 rfl hl (Nat.le_of_ble_eq_true rfl) rfl (fun ls hl => ?_)
          refine lv_iinc (v := (5 : Int32)) (lv' := [(3, .int (5 : Int32)), (2, .int (4 : Int32)), (0, .ref (a 0)), (1, .int p0)]) hx hb dX0_outermost_22 hl (k := 1) rfl (by first | rfl | decide) (Nat.le_of_ble_eq_true rfl) rfl (fun ls hl => ?_)
          refine lv_goto (tgt := 4) hx hb dX0_outermost_25 (by decide) ?_
          refine lv_iload_n hx hb dX0_outermost_4 rfl (lv_at hl 0 rfl) ?_
          refine lv_bipush (v := (6 : Int32)) hx hb dX0_outermost_5 qb_6 ?_
          refine lv_icmp_ge (tgt := 28) hx hb dX0_outermost_7 (by decide) (fun c_x => absurd c_x (by decide)) (fun _ => ?_)
          refine lv_aload_n hx hb dX0_outermost_10 rfl (lv_at hl 2 rfl) ?_
          refine lv_iload_n hx hb dX0_outermost_11 rfl (lv_at hl 0 rfl) ?_
          refine lv_iload_n hx hb dX0_outermost_12 rfl (lv_at hl 1 rfl) ?_
          refine rcVi (as := [.int (5 : Int32), .int (4 : Int32)]) (rest := []) (cl := RX0) C (c_X0_order l G a S (5 : Int32) (4 : Int32) (vp_in_lit 5) (vp_in_lit 4)) F_X0_order rfl bw236 bw238 bw9 hE hP (rv2 hE.K hP (q0 := 0) rfl) hl.1 dX0_outermost_13 ⟨Nat.le_of_ble_eq_true rfl, Nat.le_of_ble_eq_true rfl⟩ rfl (Nat.le_of_ble_eq_true rfl) ⟨Nat.zero_le _, Nat.zero_le _⟩ ?_
          refine lv_iload_n hx hb dX0_outermost_16 rfl (lv_at hl 3 rfl) ?_
          refine lv_icmp_ne (tgt := 22) hx hb dX0_outermost_17 (by decide) (fun c_13 => ?_) (fun c_13 => ?_)
          · refine lv_iinc (v := (6 : Int32)) (lv' := [(3, .int (6 : Int32)), (2, .int (4 : Int32)), (0, .ref (a 0)), (1, .int p0)]) hx hb dX0_outermost_22 hl (k := 0) rfl (by first | rfl | decide) (Nat.le_of_ble_eq_true rfl) rfl (fun ls hl => ?_)
            refine lv_goto (tgt := 4) hx hb dX0_outermost_25 (by decide) ?_
            refine lv_iload_n hx hb dX0_outermost_4 rfl (lv_at hl 0 rfl) ?_
            refine lv_bipush (v := (6 : Int32)) hx hb dX0_outermost_5 qb_6 ?_
            refine lv_icmp_ge (tgt := 28) hx hb dX0_outermost_7 (by decide) (fun _ => ?_) (fun c_x => absurd (show (6 : Int32) ≤ (6 : Int32) from by decide) c_x)
            refine lv_iload_n hx hb dX0_outermost_28 rfl (lv_at hl 1 rfl) ?_
            exact re_i hx hb hr hk dX0_outermost_29 (ei (Eq.trans (if_neg c_1) (Eq.trans (if_pos c_2) (Eq.trans (if_neg c_10) (Eq.trans (if_pos c_11) (if_neg c_13))))))
          · refine lv_iload_n hx hb dX0_outermost_20 rfl (lv_at hl 0 rfl) ?_
            refine lv_istore_n (lv' := [(2, .int (5 : Int32)), (3, .int (5 : Int32)), (0, .ref (a 0)), (1, .int p0)]) hx hb dX0_outermost_21 rfl hl (Nat.le_of_ble_eq_true rfl) rfl (fun ls hl => ?_)
            refine lv_iinc (v := (6 : Int32)) (lv' := [(3, .int (6 : Int32)), (2, .int (5 : Int32)), (0, .ref (a 0)), (1, .int p0)]) hx hb dX0_outermost_22 hl (k := 1) rfl (by first | rfl | decide) (Nat.le_of_ble_eq_true rfl) rfl (fun ls hl => ?_)
            refine lv_goto (tgt := 4) hx hb dX0_outermost_25 (by decide) ?_
            refine lv_iload_n hx hb dX0_outermost_4 rfl (lv_at hl 0 rfl) ?_
            refine lv_bipush (v := (6 : Int32)) hx hb dX0_outermost_5 qb_6 ?_
            refine lv_icmp_ge (tgt := 28) hx hb dX0_outermost_7 (by decide) (fun _ => ?_) (fun c_x => absurd (show (6 : Int32) ≤ (6 : Int32) from by decide) c_x)
            refine lv_iload_n hx hb dX0_outermost_28 rfl (lv_at hl 1 rfl) ?_
            exact re_i hx hb hr hk dX0_outermost_29 (ei (Eq.trans (if_neg c_1) (Eq.trans (if_pos c_2) (Eq.trans (if_neg c_10) (Eq.trans (if_pos c_11) (if_pos c_13))))))
      · refine lv_iload_n hx hb dX0_outermost_20 rfl (lv_at hl 0 rfl) ?_
        refine lv_istore_n (lv' := [(2, .int (3 : Int32)), (3, .int (3 : Int32)), (0, .ref (a 0)), (1, .int p0)]) hx hb dX0_outermost_21 rfl hl (Nat.le_of_ble_eq_true rfl) rfl (fun ls hl => ?_)
        refine lv_iinc (v := (4 : Int32)) (lv' := [(3, .int (4 : Int32)), (2, .int (3 : Int32)), (0, .ref (a 0)), (1, .int p0)]) hx hb dX0_outermost_22 hl (k := 1) rfl (by first | rfl | decide) (Nat.le_of_ble_eq_true rfl) rfl (fun ls hl => ?_)
        refine lv_goto (tgt := 4) hx hb dX0_outermost_25 (by decide) ?_
        refine lv_iload_n hx hb dX0_outermost_4 rfl (lv_at hl 0 rfl) ?_
        refine lv_bipush (v := (6 : Int32)) hx hb dX0_outermost_5 qb_6 ?_
        refine lv_icmp_ge (tgt := 28) hx hb dX0_outermost_7 (by decide) (fun c_x => absurd c_x (by decide)) (fun _ => ?_)
        refine lv_aload_n hx hb dX0_outermost_10 rfl (lv_at hl 2 rfl) ?_
        refine lv_iload_n hx hb dX0_outermost_11 rfl (lv_at hl 0 rfl) ?_
        refine lv_iload_n hx hb dX0_outermost_12 rfl (lv_at hl 1 rfl) ?_
        refine rcVi (as := [.int (4 : Int32), .int (3 : Int32)]) (rest := []) (cl := RX0) C (c_X0_order l G a S (4 : Int32) (3 : Int32) (vp_in_lit 4) (vp_in_lit 3)) F_X0_order rfl bw236 bw238 bw9 hE hP (rv2 hE.K hP (q0 := 0) rfl) hl.1 dX0_outermost_13 ⟨Nat.le_of_ble_eq_true rfl, Nat.le_of_ble_eq_true rfl⟩ rfl (Nat.le_of_ble_eq_true rfl) ⟨Nat.zero_le _, Nat.zero_le _⟩ ?_
        refine lv_iload_n hx hb dX0_outermost_16 rfl (lv_at hl 3 rfl) ?_
        refine lv_icmp_ne (tgt := 22) hx hb dX0_outermost_17 (by decide) (fun c_14 => ?_) (fun c_14 => ?_)
        · refine lv_iinc (v := (5 : Int32)) (lv' := [(3, .int (5 : Int32)), (2, .int (3 : Int32)), (0, .ref (a 0)), (1, .int p0)]) hx hb dX0_outermost_22 hl (k := 0) rfl (by first | rfl | decide) (Nat.le_of_ble_eq_true rfl) rfl (fun ls hl => ?_)
          refine lv_goto (tgt := 4) hx hb dX0_outermost_25 (by decide) ?_
          refine lv_iload_n hx hb dX0_outermost_4 rfl (lv_at hl 0 rfl) ?_
          refine lv_bipush (v := (6 : Int32)) hx hb dX0_outermost_5 qb_6 ?_
          refine lv_icmp_ge (tgt := 28) hx hb dX0_outermost_7 (by decide) (fun c_x => absurd c_x (by decide)) (fun _ => ?_)
          refine lv_aload_n hx hb dX0_outermost_10 rfl (lv_at hl 2 rfl) ?_
          refine lv_iload_n hx hb dX0_outermost_11 rfl (lv_at hl 0 rfl) ?_
          refine lv_iload_n hx hb dX0_outermost_12 rfl (lv_at hl 1 rfl) ?_
          refine rcVi (as := [.int (5 : Int32), .int (3 : Int32)]) (rest := []) (cl := RX0) C (c_X0_order l G a S (5 : Int32) (3 : Int32) (vp_in_lit 5) (vp_in_lit 3)) F_X0_order rfl bw236 bw238 bw9 hE hP (rv2 hE.K hP (q0 := 0) rfl) hl.1 dX0_outermost_13 ⟨Nat.le_of_ble_eq_true rfl, Nat.le_of_ble_eq_true rfl⟩ rfl (Nat.le_of_ble_eq_true rfl) ⟨Nat.zero_le _, Nat.zero_le _⟩ ?_
          refine lv_iload_n hx hb dX0_outermost_16 rfl (lv_at hl 3 rfl) ?_
          refine lv_icmp_ne (tgt := 22) hx hb dX0_outermost_17 (by decide) (fun c_15 => ?_) (fun c_15 => ?_)
          · refine lv_iinc (v := (6 : Int32)) (lv' := [(3, .int (6 : Int32)), (2, .int (3 : Int32)), (0, .ref (a 0)), (1, .int p0)]) hx hb dX0_outermost_22 hl (k := 0) rfl (by first | rfl | decide) (Nat.le_of_ble_eq_true rfl) rfl (fun ls hl => ?_)
            refine lv_goto (tgt := 4) hx hb dX0_outermost_25 (by decide) ?_
            refine lv_iload_n hx hb dX0_outermost_4 rfl (lv_at hl 0 rfl) ?_
            refine lv_bipush (v := (6 : Int32)) hx hb dX0_outermost_5 qb_6 ?_
            refine lv_icmp_ge (tgt := 28) hx hb dX0_outermost_7 (by decide) (fun _ => ?_) (fun c_x => absurd (show (6 : Int32) ≤ (6 : Int32) from by decide) c_x)
            refine lv_iload_n hx hb dX0_outermost_28 rfl (lv_at hl 1 rfl) ?_
            exact re_i hx hb hr hk dX0_outermost_29 (ei (Eq.trans (if_neg c_1) (Eq.trans (if_pos c_2) (Eq.trans (if_pos c_10) (Eq.trans (if_neg c_14) (if_neg c_15))))))
          · refine lv_iload_n hx hb dX0_outermost_20 rfl (lv_at hl 0 rfl) ?_
            refine lv_istore_n (lv' := [(2, .int (5 : Int32)), (3, .int (5 : Int32)), (0, .ref (a 0)), (1, .int p0)]) hx hb dX0_outermost_21 rfl hl (Nat.le_of_ble_eq_true rfl) rfl (fun ls hl => ?_)
            refine lv_iinc (v := (6 : Int32)) (lv' := [(3, .int (6 : Int32)), (2, .int (5 : Int32)), (0, .ref (a 0)), (1, .int p0)]) hx hb dX0_outermost_22 hl (k := 1) rfl (by first | rfl | decide) (Nat.le_of_ble_eq_true rfl) rfl (fun ls hl => ?_)
            refine lv_goto (tgt := 4) hx hb dX0_outermost_25 (by decide) ?_
            refine lv_iload_n hx hb dX0_outermost_4 rfl (lv_at hl 0 rfl) ?_
            refine lv_bipush (v := (6 : Int32)) hx hb dX0_outermost_5 qb_6 ?_
            refine lv_icmp_ge (tgt := 28) hx hb dX0_outermost_7 (by decide) (fun _ => ?_) (fun c_x => absurd (show (6 : Int32) ≤ (6 : Int32) from by decide) c_x)
            refine lv_iload_n hx hb dX0_outermost_28 rfl (lv_at hl 1 rfl) ?_
            exact re_i hx hb hr hk dX0_outermost_29 (ei (Eq.trans (if_neg c_1) (Eq.trans (if_pos c_2) (Eq.trans (if_pos c_10) (Eq.trans (if_neg c_14) (if_pos c_15))))))
        · refine lv_iload_n hx hb dX0_outermost_20 rfl (lv_at hl 0 rfl) ?_
          refine lv_istore_n (lv' := [(2, .int (4 : Int32)), (3, .int (4 : Int32)), (0, .ref (a 0)), (1, .int p0)]) hx hb dX0_outermost_21 rfl hl (Nat.le_of_ble_eq_true rfl) rfl (fun ls hl => ?_)
          refine lv_iinc (v := (5 : Int32)) (lv' := [(3, .int (5 : Int32)), (2, .int (4 : Int32)), (0, .ref (a 0)), (1, .int p0)]) hx hb dX0_outermost_22 hl (k := 1) rfl (by first | rfl | decide) (Nat.le_of_ble_eq_true rfl) rfl (fun ls hl => ?_)
          refine lv_goto (tgt := 4) hx hb dX0_outermost_25 (by decide) ?_
          refine lv_iload_n hx hb dX0_outermost_4 rfl (lv_at hl 0 rfl) ?_
          refine lv_bipush (v := (6 : Int32)) hx hb dX0_outermost_5 qb_6 ?_
          refine lv_icmp_ge (tgt := 28) hx hb dX0_outermost_7 (by decide) (fun c_x => absurd c_x (by decide)) (fun _ => ?_)
          refine lv_aload_n hx hb dX0_outermost_10 rfl (lv_at hl 2 rfl) ?_
          refine lv_iload_n hx hb dX0_outermost_11 rfl (lv_at hl 0 rfl) ?_
          refine lv_iload_n hx hb dX0_outermost_12 rfl (lv_at hl 1 rfl) ?_
          refine rcVi (as := [.int (5 : Int32), .int (4 : Int32)]) (rest := []) (cl := RX0) C (c_X0_order l G a S (5 : Int32) (4 : Int32) (vp_in_lit 5) (vp_in_lit 4)) F_X0_order rfl bw236 bw238 bw9 hE hP (rv2 hE.K hP (q0 := 0) rfl) hl.1 dX0_outermost_13 ⟨Nat.le_of_ble_eq_true rfl, Nat.le_of_ble_eq_true rfl⟩ rfl (Nat.le_of_ble_eq_true rfl) ⟨Nat.zero_le _, Nat.zero_le _⟩ ?_
          refine lv_iload_n hx hb dX0_outermost_16 rfl (lv_at hl 3 rfl) ?_
          refine lv_icmp_ne (tgt := 22) hx hb dX0_outermost_17 (by decide) (fun c_16 => ?_) (fun c_16 => ?_)
          · refine lv_iinc (v := (6 : Int32)) (lv' := [(3, .int (6 : Int32)), (2, .int (4 : Int32)), (0, .ref (a 0)), (1, .int p0)]) hx hb dX0_outermost_22 hl (k := 0) rfl (by first | rfl | decide) (Nat.le_of_ble_eq_true rfl) rfl (fun ls hl => ?_)
            refine lv_goto (tgt := 4) hx hb dX0_outermost_25 (by decide) ?_
            refine lv_iload_n hx hb dX0_outermost_4 rfl (lv_at hl 0 rfl) ?_
            refine lv_bipush (v := (6 : Int32)) hx hb dX0_outermost_5 qb_6 ?_
            refine lv_icmp_ge (tgt := 28) hx hb dX0_outermost_7 (by decide) (fun _ => ?_) (fun c_x => absurd (show (6 : Int32) ≤ (6 : Int32) from by decide) c_x)
            refine lv_iload_n hx hb dX0_outermost_28 rfl (lv_at hl 1 rfl) ?_
            exact re_i hx hb hr hk dX0_outermost_29 (ei (Eq.trans (if_neg c_1) (Eq.trans (if_pos c_2) (Eq.trans (if_pos c_10) (Eq.trans (if_pos c_14) (if_neg c_16))))))
          · refine lv_iload_n hx hb dX0_outermost_20 rfl (lv_at hl 0 rfl) ?_
            refine lv_istore_n (lv' := [(2, .int (5 : Int32)), (3, .int (5 : Int32)), (0, .ref (a 0)), (1, .int p0)]) hx hb dX0_outermost_21 rfl hl (Nat.le_of_ble_eq_true rfl) rfl (fun ls hl => ?_)
            refine lv_iinc (v := (6 : Int32)) (lv' := [(3, .int (6 : Int32)), (2, .int (5 : Int32)), (0, .ref (a 0)), (1, .int p0)]) hx hb dX0_outermost_22 hl (k := 1) rfl (by first | rfl | decide) (Nat.le_of_ble_eq_true rfl) rfl (fun ls hl => ?_)
            refine lv_goto (tgt := 4) hx hb dX0_outermost_25 (by decide) ?_
            refine lv_iload_n hx hb dX0_outermost_4 rfl (lv_at hl 0 rfl) ?_
            refine lv_bipush (v := (6 : Int32)) hx hb dX0_outermost_5 qb_6 ?_
            refine lv_icmp_ge (tgt := 28) hx hb dX0_outermost_7 (by decide) (fun _ => ?_) (fun c_x => absurd (show (6 : Int32) ≤ (6 : Int32) from by decide) c_x)
            refine lv_iload_n hx hb dX0_outermost_28 rfl (lv_at hl 1 rfl) ?_
            exact re_i hx hb hr hk dX0_outermost_29 (ei (Eq.trans (if_neg c_1) (Eq.trans (if_pos c_2) (Eq.trans (if_pos c_10) (Eq.trans (if_pos c_14) (if_pos c_16))))))
  · refine lv_iload_n hx hb dX0_outermost_20 rfl (lv_at hl 0 rfl) ?_
    refine lv_istore_n (lv' := [(2, .int (1 : Int32)), (3, .int (1 : Int32)), (0, .ref (a 0)), (1, .int p0)]) hx hb dX0_outermost_21 rfl hl (Nat.le_of_ble_eq_true rfl) rfl (fun ls hl => ?_)
    refine lv_iinc (v := (2 : Int32)) (lv' := [(3, .int (2 : Int32)), (2, .int (1 : Int32)), (0, .ref (a 0)), (1, .int p0)]) hx hb dX0_outermost_22 hl (k := 1) rfl (by first | rfl | decide) (Nat.le_of_ble_eq_true rfl) rfl (fun ls hl => ?_)
    refine lv_goto (tgt := 4) hx hb dX0_outermost_25 (by decide) ?_
    refine lv_iload_n hx hb dX0_outermost_4 rfl (lv_at hl 0 rfl) ?_
    refine lv_bipush (v := (6 : Int32)) hx hb dX0_outermost_5 qb_6 ?_
    refine lv_icmp_ge (tgt := 28) hx hb dX0_outermost_7 (by decide) (fun c_x => absurd c_x (by decide)) (fun _ => ?_)
    refine lv_aload_n hx hb dX0_outermost_10 rfl (lv_at hl 2 rfl) ?_
    refine lv_iload_n hx hb dX0_outermost_11 rfl (lv_at hl 0 rfl) ?_
    refine lv_iload_n hx hb dX0_outermost_12 rfl (lv_at hl 1 rfl) ?_
    refine rcVi (as := [.int (2 : Int32), .int (1 : Int32)]) (rest := []) (cl := RX0) C (c_X0_order l G a S (2 : Int32) (1 : Int32) (vp_in_lit 2) (vp_in_lit 1)) F_X0_order rfl bw236 bw238 bw9 hE hP (rv2 hE.K hP (q0 := 0) rfl) hl.1 dX0_outermost_13 ⟨Nat.le_of_ble_eq_true rfl, Nat.le_of_ble_eq_true rfl⟩ rfl (Nat.le_of_ble_eq_true rfl) ⟨Nat.zero_le _, Nat.zero_le _⟩ ?_
    refine lv_iload_n hx hb dX0_outermost_16 rfl (lv_at hl 3 rfl) ?_
    refine lv_icmp_ne (tgt := 22) hx hb dX0_outermost_17 (by decide) (fun c_17 => ?_) (fun c_17 => ?_)
    · refine lv_iinc (v := (3 : Int32)) (lv' := [(3, .int (3 : Int32)), (2, .int (1 : Int32)), (0, .ref (a 0)), (1, .int p0)]) hx hb dX0_outermost_22 hl (k := 0) rfl (by first | rfl | decide) (Nat.le_of_ble_eq_true rfl) rfl (fun ls hl => ?_)
      refine lv_goto (tgt := 4) hx hb dX0_outermost_25 (by decide) ?_
      refine lv_iload_n hx hb dX0_outermost_4 rfl (lv_at hl 0 rfl) ?_
      refine lv_bipush (v := (6 : Int32)) hx hb dX0_outermost_5 qb_6 ?_
      refine lv_icmp_ge (tgt := 28) hx hb dX0_outermost_7 (by decide) (fun c_x => absurd c_x (by decide)) (fun _ => ?_)
      refine lv_aload_n hx hb dX0_outermost_10 rfl (lv_at hl 2 rfl) ?_
      refine lv_iload_n hx hb dX0_outermost_11 rfl (lv_at hl 0 rfl) ?_
      refine lv_iload_n hx hb dX0_outermost_12 rfl (lv_at hl 1 rfl) ?_
      refine rcVi (as := [.int (3 : Int32), .int (1 : Int32)]) (rest := []) (cl := RX0) C (c_X0_order l G a S (3 : Int32) (1 : Int32) (vp_in_lit 3) (vp_in_lit 1)) F_X0_order rfl bw236 bw238 bw9 hE hP (rv2 hE.K hP (q0 := 0) rfl) hl.1 dX0_outermost_13 ⟨Nat.le_of_ble_eq_true rfl, Nat.le_of_ble_eq_true rfl⟩ rfl (Nat.le_of_ble_eq_true rfl) ⟨Nat.zero_le _, Nat.zero_le _⟩ ?_
      refine lv_iload_n hx hb dX0_outermost_16 rfl (lv_at hl 3 rfl) ?_
      refine lv_icmp_ne (tgt := 22) hx hb dX0_outermost_17 (by decide) (fun c_18 => ?_) (fun c_18 => ?_)
      · refine lv_iinc (v := (4 : Int32)) (lv' := [(3, .int (4 : Int32)), (2, .int (1 : Int32)), (0, .ref (a 0)), (1, .int p0)]) hx hb dX0_outermost_22 hl (k := 0) rfl (by first | rfl | decide) (Nat.le_of_ble_eq_true rfl) rfl (fun ls hl => ?_)
        refine lv_goto (tgt := 4) hx hb dX0_outermost_25 (by decide) ?_
        refine lv_iload_n hx hb dX0_outermost_4 rfl (lv_at hl 0 rfl) ?_
        refine lv_bipush (v := (6 : Int32)) hx hb dX0_outermost_5 qb_6 ?_
        refine lv_icmp_ge (tgt := 28) hx hb dX0_outermost_7 (by decide) (fun c_x => absurd c_x (by decide)) (fun _ => ?_)
        refine lv_aload_n hx hb dX0_outermost_10 rfl (lv_at hl 2 rfl) ?_
        refine lv_iload_n hx hb dX0_outermost_11 rfl (lv_at hl 0 rfl) ?_
        refine lv_iload_n hx hb dX0_outermost_12 rfl (lv_at hl 1 rfl) ?_
        refine rcVi (as := [.int (4 : Int32), .int (1 : Int32)]) (rest := []) (cl := RX0) C (c_X0_order l G a S (4 : Int32) (1 : Int32) (vp_in_lit 4) (vp_in_lit 1)) F_X0_order rfl bw236 bw238 bw9 hE hP (rv2 hE.K hP (q0 := 0) rfl) hl.1 dX0_outermost_13 ⟨Nat.le_of_ble_eq_true rfl, Nat.le_of_ble_eq_true rfl⟩ rfl (Nat.le_of_ble_eq_true rfl) ⟨Nat.zero_le _, Nat.zero_le _⟩ ?_
        refine lv_iload_n hx hb dX0_outermost_16 rfl (lv_at hl 3 rfl) ?_
        refine lv_icmp_ne (tgt := 22) hx hb dX0_outermost_17 (by decide) (fun c_19 => ?_) (fun c_19 => ?_)
        · refine lv_iinc (v := (5 : Int32)) (lv' := [(3, .int (5 : Int32)), (2, .int (1 : Int32)), (0, .ref (a 0)), (1, .int p0)]) hx hb dX0_outermost_22 hl (k := 0) rfl (by first | rfl | decide) (Nat.le_of_ble_eq_true rfl) rfl (fun ls hl => ?_)
          refine lv_goto (tgt := 4) hx hb dX0_outermost_25 (by decide) ?_
          refine lv_iload_n hx hb dX0_outermost_4 rfl (lv_at hl 0 rfl) ?_
          refine lv_bipush (v := (6 : Int32)) hx hb dX0_outermost_5 qb_6 ?_
          refine lv_icmp_ge (tgt := 28) hx hb dX0_outermost_7 (by decide) (fun c_x => absurd c_x (by decide)) (fun _ => ?_)
          refine lv_aload_n hx hb dX0_outermost_10 rfl (lv_at hl 2 rfl) ?_
          refine lv_iload_n hx hb dX0_outermost_11 rfl (lv_at hl 0 rfl) ?_
          refine lv_iload_n hx hb dX0_outermost_12 rfl (lv_at hl 1 rfl) ?_
          refine rcVi (as := [.int (5 : Int32), .int (1 : Int32)]) (rest := []) (cl := RX0) C (c_X0_order l G a S (5 : Int32) (1 : Int32) (vp_in_lit 5) (vp_in_lit 1)) F_X0_order rfl bw236 bw238 bw9 hE hP (rv2 hE.K hP (q0 := 0) rfl) hl.1 dX0_outermost_13 ⟨Nat.le_of_ble_eq_true rfl, Nat.le_of_ble_eq_true rfl⟩ rfl (Nat.le_of_ble_eq_true rfl) ⟨Nat.zero_le _, Nat.zero_le _⟩ ?_
          refine lv_iload_n hx hb dX0_outermost_16 rfl (lv_at hl 3 rfl) ?_
          refine lv_icmp_ne (tgt := 22) hx hb dX0_outermost_17 (by decide) (fun c_20 => ?_) (fun c_20 => ?_)
          · refine lv_iinc (v := (6 : Int32)) (lv' := [(3, .int (6 : Int32)), (2, .int (1 : Int32)), (0, .ref (a 0)), (1, .int p0)]) hx hb dX0_outermost_22 hl (k := 0) rfl (by first | rfl | decide) (Nat.le_of_ble_eq_true rfl) rfl (fun ls hl => ?_)
            refine lv_goto (tgt := 4) hx hb dX0_outermost_25 (by decide) ?_
            refine lv_iload_n hx hb dX0_outermost_4 rfl (lv_at hl 0 rfl) ?_
            refine lv_bipush (v := (6 : Int32)) hx hb dX0_outermost_5 qb_6 ?_
            refine lv_icmp_ge (tgt := 28) hx hb dX0_outermost_7 (by decide) (fun _ => ?_) (fun c_x => absurd (show (6 : Int32) ≤ (6 : Int32) from by decide) c_x)
            refine lv_iload_n hx hb dX0_outermost_28 rfl (lv_at hl 1 rfl) ?_
            exact re_i hx hb hr hk dX0_outermost_29 (ei (Eq.trans (if_pos c_1) (Eq.trans (if_neg c_17) (Eq.trans (if_neg c_18) (Eq.trans (if_neg c_19) (if_neg c_20))))))
          · refine lv_iload_n hx hb dX0_outermost_20 rfl (lv_at hl 0 rfl) ?_
            refine lv_istore_n (lv' := [(2, .int (5 : Int32)), (3, .int (5 : Int32)), (0, .ref (a 0)), (1, .int p0)]) hx hb dX0_outermost_21 rfl hl (Nat.le_of_ble_eq_true rfl) rfl (fun ls hl => ?_)
            refine lv_iinc (v := (6 : Int32)) (lv' := [(3, .int (6 : Int32)), (2, .int (5 : Int32)), (0, .ref (a 0)), (1, .int p0)]) hx hb dX0_outermost_22 hl (k := 1) rfl (by first | rfl | decide) (Nat.le_of_ble_eq_true rfl) rfl (fun ls hl => ?_)
            refine lv_goto (tgt := 4) hx hb dX0_outermost_25 (by decide) ?_
            refine lv_iload_n hx hb dX0_outermost_4 rfl (lv_at hl 0 rfl) ?_
            refine lv_bipush (v := (6 : Int32)) hx hb dX0_outermost_5 qb_6 ?_
            refine lv_icmp_ge (tgt := 28) hx hb dX0_outermost_7 (by decide) (fun _ => ?_) (fun c_x => absurd (show (6 : Int32) ≤ (6 : Int32) from by decide) c_x)
            refine lv_iload_n hx hb dX0_outermost_28 rfl (lv_at hl 1 rfl) ?_
            exact re_i hx hb hr hk dX0_outermost_29 (ei (Eq.trans (if_pos c_1) (Eq.trans (if_neg c_17) (Eq.trans (if_neg c_18) (Eq.trans (if_neg c_19) (if_pos c_20))))))
        · refine lv_iload_n hx hb dX0_outermost_20 rfl (lv_at hl 0 rfl) ?_
          refine lv_istore_n (lv' := [(2, .int (4 : Int32)), (3, .int (4 : Int32)), (0, .ref (a 0)), (1, .int p0)]) hx hb dX0_outermost_21 rfl hl (Nat.le_of_ble_eq_true rfl) rfl (fun ls hl => ?_)
          refine lv_iinc (v := (5 : Int32)) (lv' := [(3, .int (5 : Int32)), (2, .int (4 : Int32)), (0, .ref (a 0)), (1, .int p0)]) hx hb dX0_outermost_22 hl (k := 1) rfl (by first | rfl | decide) (Nat.le_of_ble_eq_true rfl) rfl (fun ls hl => ?_)
          refine lv_goto (tgt := 4) hx hb dX0_outermost_25 (by decide) ?_
          refine lv_iload_n hx hb dX0_outermost_4 rfl (lv_at hl 0 rfl) ?_
          refine lv_bipush (v := (6 : Int32)) hx hb dX0_outermost_5 qb_6 ?_
          refine lv_icmp_ge (tgt := 28) hx hb dX0_outermost_7 (by decide) (fun c_x => absurd c_x (by decide)) (fun _ => ?_)
          refine lv_aload_n hx hb dX0_outermost_10 rfl (lv_at hl 2 rfl) ?_
          refine lv_iload_n hx hb dX0_outermost_11 rfl (lv_at hl 0 rfl) ?_
          refine lv_iload_n hx hb dX0_outermost_12 rfl (lv_at hl 1 rfl) ?_
          refine rcVi (as := [.int (5 : Int32), .int (4 : Int32)]) (rest := []) (cl := RX0) C (c_X0_order l G a S (5 : Int32) (4 : Int32) (vp_in_lit 5) (vp_in_lit 4)) F_X0_order rfl bw236 bw238 bw9 hE hP (rv2 hE.K hP (q0 := 0) rfl) hl.1 dX0_outermost_13 ⟨Nat.le_of_ble_eq_true rfl, Nat.le_of_ble_eq_true rfl⟩ rfl (Nat.le_of_ble_eq_true rfl) ⟨Nat.zero_le _, Nat.zero_le _⟩ ?_
          refine lv_iload_n hx hb dX0_outermost_16 rfl (lv_at hl 3 rfl) ?_
          refine lv_icmp_ne (tgt := 22) hx hb dX0_outermost_17 (by decide) (fun c_21 => ?_) (fun c_21 => ?_)
          · refine lv_iinc (v := (6 : Int32)) (lv' := [(3, .int (6 : Int32)), (2, .int (4 : Int32)), (0, .ref (a 0)), (1, .int p0)]) hx hb dX0_outermost_22 hl (k := 0) rfl (by first | rfl | decide) (Nat.le_of_ble_eq_true rfl) rfl (fun ls hl => ?_)
            refine lv_goto (tgt := 4) hx hb dX0_outermost_25 (by decide) ?_
            refine lv_iload_n hx hb dX0_outermost_4 rfl (lv_at hl 0 rfl) ?_
            refine lv_bipush (v := (6 : Int32)) hx hb dX0_outermost_5 qb_6 ?_
            refine lv_icmp_ge (tgt := 28) hx hb dX0_outermost_7 (by decide) (fun _ => ?_) (fun c_x => absurd (show (6 : Int32) ≤ (6 : Int32) from by decide) c_x)
            refine lv_iload_n hx hb dX0_outermost_28 rfl (lv_at hl 1 rfl) ?_
            exact re_i hx hb hr hk dX0_outermost_29 (ei (Eq.trans (if_pos c_1) (Eq.trans (if_neg c_17) (Eq.trans (if_neg c_18) (Eq.trans (if_pos c_19) (if_neg c_21))))))
          · refine lv_iload_n hx hb dX0_outermost_20 rfl (lv_at hl 0 rfl) ?_
            refine lv_istore_n (lv' := [(2, .int (5 : Int32)), (3, .int (5 : Int32)), (0, .ref (a 0)), (1, .int p0)]) hx hb dX0_outermost_21 rfl hl (Nat.le_of_ble_eq_true rfl) rfl (fun ls hl => ?_)
            refine lv_iinc (v := (6 : Int32)) (lv' := [(3, .int (6 : Int32)), (2, .int (5 : Int32)), (0, .ref (a 0)), (1, .int p0)]) hx hb dX0_outermost_22 hl (k := 1) rfl (by first | rfl | decide) (Nat.le_of_ble_eq_true rfl) rfl (fun ls hl => ?_)
            refine lv_goto (tgt := 4) hx hb dX0_outermost_25 (by decide) ?_
            refine lv_iload_n hx hb dX0_outermost_4 rfl (lv_at hl 0 rfl) ?_
            refine lv_bipush (v := (6 : Int32)) hx hb dX0_outermost_5 qb_6 ?_
            refine lv_icmp_ge (tgt := 28) hx hb dX0_outermost_7 (by decide) (fun _ => ?_) (fun c_x => absurd (show (6 : Int32) ≤ (6 : Int32) from by decide) c_x)
            refine lv_iload_n hx hb dX0_outermost_28 rfl (lv_at hl 1 rfl) ?_
            exact re_i hx hb hr hk dX0_outermost_29 (ei (Eq.trans (if_pos c_1) (Eq.trans (if_neg c_17) (Eq.trans (if_neg c_18) (Eq.trans (if_pos c_19) (if_pos c_21))))))
      · refine lv_iload_n hx hb dX0_outermost_20 rfl (lv_at hl 0 rfl) ?_
        refine lv_istore_n (lv' := [(2, .int (3 : Int32)), (3, .int (3 : Int32)), (0, .ref (a 0)), (1, .int p0)]) hx hb dX0_outermost_21 rfl hl (Nat.le_of_ble_eq_true rfl) rfl (fun ls hl => ?_)
        refine lv_iinc (v := (4 : Int32)) (lv' := [(3, .int (4 : Int32)), (2, .int (3 : Int32)), (0, .ref (a 0)), (1, .int p0)]) hx hb dX0_outermost_22 hl (k := 1) rfl (by first | rfl | decide) (Nat.le_of_ble_eq_true rfl) rfl (fun ls hl => ?_)
        refine lv_goto (tgt := 4) hx hb dX0_outermost_25 (by decide) ?_
        refine lv_iload_n hx hb dX0_outermost_4 rfl (lv_at hl 0 rfl) ?_
        refine lv_bipush (v := (6 : Int32)) hx hb dX0_outermost_5 qb_6 ?_
        refine lv_icmp_ge (tgt := 28) hx hb dX0_outermost_7 (by decide) (fun c_x => absurd c_x (by decide)) (fun _ => ?_)
        refine lv_aload_n hx hb dX0_outermost_10 rfl (lv_at hl 2 rfl) ?_
        refine lv_iload_n hx hb dX0_outermost_11 rfl (lv_at hl 0 rfl) ?_
        refine lv_iload_n hx hb dX0_outermost_12 rfl (lv_at hl 1 rfl) ?_
        refine rcVi (as := [.int (4 : Int32), .int (3 : Int32)]) (rest := []) (cl := RX0) C (c_X0_order l G a S (4 : Int32) (3 : Int32) (vp_in_lit 4) (vp_in_lit 3)) F_X0_order rfl bw236 bw238 bw9 hE hP (rv2 hE.K hP (q0 := 0) rfl) hl.1 dX0_outermost_13 ⟨Nat.le_of_ble_eq_true rfl, Nat.le_of_ble_eq_true rfl⟩ rfl (Nat.le_of_ble_eq_true rfl) ⟨Nat.zero_le _, Nat.zero_le _⟩ ?_
        refine lv_iload_n hx hb dX0_outermost_16 rfl (lv_at hl 3 rfl) ?_
        refine lv_icmp_ne (tgt := 22) hx hb dX0_outermost_17 (by decide) (fun c_22 => ?_) (fun c_22 => ?_)
        · refine lv_iinc (v := (5 : Int32)) (lv' := [(3, .int (5 : Int32)), (2, .int (3 : Int32)), (0, .ref (a 0)), (1, .int p0)]) hx hb dX0_outermost_22 hl (k := 0) rfl (by first | rfl | decide) (Nat.le_of_ble_eq_true rfl) rfl (fun ls hl => ?_)
          refine lv_goto (tgt := 4) hx hb dX0_outermost_25 (by decide) ?_
          refine lv_iload_n hx hb dX0_outermost_4 rfl (lv_at hl 0 rfl) ?_
          refine lv_bipush (v := (6 : Int32)) hx hb dX0_outermost_5 qb_6 ?_
          refine lv_icmp_ge (tgt := 28) hx hb dX0_outermost_7 (by decide) (fun c_x => absurd c_x (by decide)) (fun _ => ?_)
          refine lv_aload_n hx hb dX0_outermost_10 rfl (lv_at hl 2 rfl) ?_
          refine lv_iload_n hx hb dX0_outermost_11 rfl (lv_at hl 0 rfl) ?_
          refine lv_iload_n hx hb dX0_outermost_12 rfl (lv_at hl 1 rfl) ?_
          refine rcVi (as := [.int (5 : Int32), .int (3 : Int32)]) (rest := []) (cl := RX0) C (c_X0_order l G a S (5 : Int32) (3 : Int32) (vp_in_lit 5) (vp_in_lit 3)) F_X0_order rfl bw236 bw238 bw9 hE hP (rv2 hE.K hP (q0 := 0) rfl) hl.1 dX0_outermost_13 ⟨Nat.le_of_ble_eq_true rfl, Nat.le_of_ble_eq_true rfl⟩ rfl (Nat.le_of_ble_eq_true rfl) ⟨Nat.zero_le _, Nat.zero_le _⟩ ?_
          refine lv_iload_n hx hb dX0_outermost_16 rfl (lv_at hl 3 rfl) ?_
          refine lv_icmp_ne (tgt := 22) hx hb dX0_outermost_17 (by decide) (fun c_23 => ?_) (fun c_23 => ?_)
          · refine lv_iinc (v := (6 : Int32)) (lv' := [(3, .int (6 : Int32)), (2, .int (3 : Int32)), (0, .ref (a 0)), (1, .int p0)]) hx hb dX0_outermost_22 hl (k := 0) rfl (by first | rfl | decide) (Nat.le_of_ble_eq_true rfl) rfl (fun ls hl => ?_)
            refine lv_goto (tgt := 4) hx hb dX0_outermost_25 (by decide) ?_
            refine lv_iload_n hx hb dX0_outermost_4 rfl (lv_at hl 0 rfl) ?_
            refine lv_bipush (v := (6 : Int32)) hx hb dX0_outermost_5 qb_6 ?_
            refine lv_icmp_ge (tgt := 28) hx hb dX0_outermost_7 (by decide) (fun _ => ?_) (fun c_x => absurd (show (6 : Int32) ≤ (6 : Int32) from by decide) c_x)
            refine lv_iload_n hx hb dX0_outermost_28 rfl (lv_at hl 1 rfl) ?_
            exact re_i hx hb hr hk dX0_outermost_29 (ei (Eq.trans (if_pos c_1) (Eq.trans (if_neg c_17) (Eq.trans (if_pos c_18) (Eq.trans (if_neg c_22) (if_neg c_23))))))
          · refine lv_iload_n hx hb dX0_outermost_20 rfl (lv_at hl 0 rfl) ?_
            refine lv_istore_n (lv' := [(2, .int (5 : Int32)), (3, .int (5 : Int32)), (0, .ref (a 0)), (1, .int p0)]) hx hb dX0_outermost_21 rfl hl (Nat.le_of_ble_eq_true rfl) rfl (fun ls hl => ?_)
            refine lv_iinc (v := (6 : Int32)) (lv' := [(3, .int (6 : Int32)), (2, .int (5 : Int32)), (0, .ref (a 0)), (1, .int p0)]) hx hb dX0_outermost_22 hl (k := 1) rfl (by first | rfl | decide) (Nat.le_of_ble_eq_true rfl) rfl (fun ls hl => ?_)
            refine lv_goto (tgt := 4) hx hb dX0_outermost_25 (by decide) ?_
            refine lv_iload_n hx hb dX0_outermost_4 rfl (lv_at hl 0 rfl) ?_
            refine lv_bipush (v := (6 : Int32)) hx hb dX0_outermost_5 qb_6 ?_
            refine lv_icmp_ge (tgt := 28) hx hb dX0_outermost_7 (by decide) (fun _ => ?_) (fun c_x => absurd (show (6 : Int32) ≤ (6 : Int32) from by decide) c_x)
            refine lv_iload_n hx hb dX0_outermost_28 rfl (lv_at hl 1 rfl) ?_
            exact re_i hx hb hr hk dX0_outermost_29 (ei (Eq.trans (if_pos c_1) (Eq.trans (if_neg c_17) (Eq.trans (if_pos c_18) (Eq.trans (if_neg c_22) (if_pos c_23))))))
        · refine lv_iload_n hx hb dX0_outermost_20 rfl (lv_at hl 0 rfl) ?_
          refine lv_istore_n (lv' := [(2, .int (4 : Int32)), (3, .int (4 : Int32)), (0, .ref (a 0)), (1, .int p0)]) hx hb dX0_outermost_21 rfl hl (Nat.le_of_ble_eq_true rfl) rfl (fun ls hl => ?_)
          refine lv_iinc (v := (5 : Int32)) (lv' := [(3, .int (5 : Int32)), (2, .int (4 : Int32)), (0, .ref (a 0)), (1, .int p0)]) hx hb dX0_outermost_22 hl (k := 1) rfl (by first | rfl | decide) (Nat.le_of_ble_eq_true rfl) rfl (fun ls hl => ?_)
          refine lv_goto (tgt := 4) hx hb dX0_outermost_25 (by decide) ?_
          refine lv_iload_n hx hb dX0_outermost_4 rfl (lv_at hl 0 rfl) ?_
          refine lv_bipush (v := (6 : Int32)) hx hb dX0_outermost_5 qb_6 ?_
          refine lv_icmp_ge (tgt := 28) hx hb dX0_outermost_7 (by decide) (fun c_x => absurd c_x (by decide)) (fun _ => ?_)
          refine lv_aload_n hx hb dX0_outermost_10 rfl (lv_at hl 2 rfl) ?_
          refine lv_iload_n hx hb dX0_outermost_11 rfl (lv_at hl 0 rfl) ?_
          refine lv_iload_n hx hb dX0_outermost_12 rfl (lv_at hl 1 rfl) ?_
          refine rcVi (as := [.int (5 : Int32), .int (4 : Int32)]) (rest := []) (cl := RX0) C (c_X0_order l G a S (5 : Int32) (4 : Int32) (vp_in_lit 5) (vp_in_lit 4)) F_X0_order rfl bw236 bw238 bw9 hE hP (rv2 hE.K hP (q0 := 0) rfl) hl.1 dX0_outermost_13 ⟨Nat.le_of_ble_eq_true rfl, Nat.le_of_ble_eq_true rfl⟩ rfl (Nat.le_of_ble_eq_true rfl) ⟨Nat.zero_le _, Nat.zero_le _⟩ ?_
          refine lv_iload_n hx hb dX0_outermost_16 rfl (lv_at hl 3 rfl) ?_
          refine lv_icmp_ne (tgt := 22) hx hb dX0_outermost_17 (by decide) (fun c_24 => ?_) (fun c_24 => ?_)
          · refine lv_iinc (v := (6 : Int32)) (lv' := [(3, .int (6 : Int32)), (2, .int (4 : Int32)), (0, .ref (a 0)), (1, .int p0)]) hx hb dX0_outermost_22 hl (k := 0) rfl (by first | rfl | decide) (Nat.le_of_ble_eq_true rfl) rfl (fun ls hl => ?_)
            refine lv_goto (tgt := 4) hx hb dX0_outermost_25 (by decide) ?_
            refine lv_iload_n hx hb dX0_outermost_4 rfl (lv_at hl 0 rfl) ?_
            refine lv_bipush (v := (6 : Int32)) hx hb dX0_outermost_5 qb_6 ?_
            refine lv_icmp_ge (tgt := 28) hx hb dX0_outermost_7 (by decide) (fun _ => ?_) (fun c_x => absurd (show (6 : Int32) ≤ (6 : Int32) from by decide) c_x)
            refine lv_iload_n hx hb dX0_outermost_28 rfl (lv_at hl 1 rfl) ?_
            exact re_i hx hb hr hk dX0_outermost_29 (ei (Eq.trans (if_pos c_1) (Eq.trans (if_neg c_17) (Eq.trans (if_pos c_18) (Eq.trans (if_pos c_22) (if_neg c_24))))))
          · refine lv_iload_n hx hb dX0_outermost_20 rfl (lv_at hl 0 rfl) ?_
            refine lv_istore_n (lv' := [(2, .int (5 : Int32)), (3, .int (5 : Int32)), (0, .ref (a 0)), (1, .int p0)]) hx hb dX0_outermost_21 rfl hl (Nat.le_of_ble_eq_true rfl) rfl (fun ls hl => ?_)
            refine lv_iinc (v := (6 : Int32)) (lv' := [(3, .int (6 : Int32)), (2, .int (5 : Int32)), (0, .ref (a 0)), (1, .int p0)]) hx hb dX0_outermost_22 hl (k := 1) rfl (by first | rfl | decide) (Nat.le_of_ble_eq_true rfl) rfl (fun ls hl => ?_)
            refine lv_goto (tgt := 4) hx hb dX0_outermost_25 (by decide) ?_
            refine lv_iload_n hx hb dX0_outermost_4 rfl (lv_at hl 0 rfl) ?_
            refine lv_bipush (v := (6 : Int32)) hx hb dX0_outermost_5 qb_6 ?_
            refine lv_icmp_ge (tgt := 28) hx hb dX0_outermost_7 (by decide) (fun _ => ?_) (fun c_x => absurd (show (6 : Int32) ≤ (6 : Int32) from by decide) c_x)
            refine lv_iload_n hx hb dX0_outermost_28 rfl (lv_at hl 1 rfl) ?_
            exact re_i hx hb hr hk dX0_outermost_29 (ei (Eq.trans (if_pos c_1) (Eq.trans (if_neg c_17) (Eq.trans (if_pos c_18) (Eq.trans (if_pos c_22) (if_pos c_24))))))
    · refine lv_iload_n hx hb dX0_outermost_20 rfl (lv_at hl 0 rfl) ?_
      refine lv_istore_n (lv' := [(2, .int (2 : Int32)), (3, .int (2 : Int32)), (0, .ref (a 0)), (1, .int p0)]) hx hb dX0_outermost_21 rfl hl (Nat.le_of_ble_eq_true rfl) rfl (fun ls hl => ?_)
      refine lv_iinc (v := (3 : Int32)) (lv' := [(3, .int (3 : Int32)), (2, .int (2 : Int32)), (0, .ref (a 0)), (1, .int p0)]) hx hb dX0_outermost_22 hl (k := 1) rfl (by first | rfl | decide) (Nat.le_of_ble_eq_true rfl) rfl (fun ls hl => ?_)
      refine lv_goto (tgt := 4) hx hb dX0_outermost_25 (by decide) ?_
      refine lv_iload_n hx hb dX0_outermost_4 rfl (lv_at hl 0 rfl) ?_
      refine lv_bipush (v := (6 : Int32)) hx hb dX0_outermost_5 qb_6 ?_
      refine lv_icmp_ge (tgt := 28) hx hb dX0_outermost_7 (by decide) (fun c_x => absurd c_x (by decide)) (fun _ => ?_)
      refine lv_aload_n hx hb dX0_outermost_10 rfl (lv_at hl 2 rfl) ?_
      refine lv_iload_n hx hb dX0_outermost_11 rfl (lv_at hl 0 rfl) ?_
      refine lv_iload_n hx hb dX0_outermost_12 rfl (lv_at hl 1 rfl) ?_
      refine rcVi (as := [.int (3 : Int32), .int (2 : Int32)]) (rest := []) (cl := RX0) C (c_X0_order l G a S (3 : Int32) (2 : Int32) (vp_in_lit 3) (vp_in_lit 2)) F_X0_order rfl bw236 bw238 bw9 hE hP (rv2 hE.K hP (q0 := 0) rfl) hl.1 dX0_outermost_13 ⟨Nat.le_of_ble_eq_true rfl, Nat.le_of_ble_eq_true rfl⟩ rfl (Nat.le_of_ble_eq_true rfl) ⟨Nat.zero_le _, Nat.zero_le _⟩ ?_
      refine lv_iload_n hx hb dX0_outermost_16 rfl (lv_at hl 3 rfl) ?_
      refine lv_icmp_ne (tgt := 22) hx hb dX0_outermost_17 (by decide) (fun c_25 => ?_) (fun c_25 => ?_)
      · refine lv_iinc (v := (4 : Int32)) (lv' := [(3, .int (4 : Int32)), (2, .int (2 : Int32)), (0, .ref (a 0)), (1, .int p0)]) hx hb dX0_outermost_22 hl (k := 0) rfl (by first | rfl | decide) (Nat.le_of_ble_eq_true rfl) rfl (fun ls hl => ?_)
        refine lv_goto (tgt := 4) hx hb dX0_outermost_25 (by decide) ?_
        refine lv_iload_n hx hb dX0_outermost_4 rfl (lv_at hl 0 rfl) ?_
        refine lv_bipush (v := (6 : Int32)) hx hb dX0_outermost_5 qb_6 ?_
        refine lv_icmp_ge (tgt := 28) hx hb dX0_outermost_7 (by decide) (fun c_x => absurd c_x (by decide)) (fun _ => ?_)
        refine lv_aload_n hx hb dX0_outermost_10 rfl (lv_at hl 2 rfl) ?_
        refine lv_iload_n hx hb dX0_outermost_11 rfl (lv_at hl 0 rfl) ?_
        refine lv_iload_n hx hb dX0_outermost_12 rfl (lv_at hl 1 rfl) ?_
        refine rcVi (as := [.int (4 : Int32), .int (2 : Int32)]) (rest := []) (cl := RX0) C (c_X0_order l G a S (4 : Int32) (2 : Int32) (vp_in_lit 4) (vp_in_lit 2)) F_X0_order rfl bw236 bw238 bw9 hE hP (rv2 hE.K hP (q0 := 0) rfl) hl.1 dX0_outermost_13 ⟨Nat.le_of_ble_eq_true rfl, Nat.le_of_ble_eq_true rfl⟩ rfl (Nat.le_of_ble_eq_true rfl) ⟨Nat.zero_le _, Nat.zero_le _⟩ ?_
        refine lv_iload_n hx hb dX0_outermost_16 rfl (lv_at hl 3 rfl) ?_
        refine lv_icmp_ne (tgt := 22) hx hb dX0_outermost_17 (by decide) (fun c_26 => ?_) (fun c_26 => ?_)
        · refine lv_iinc (v := (5 : Int32)) (lv' := [(3, .int (5 : Int32)), (2, .int (2 : Int32)), (0, .ref (a 0)), (1, .int p0)]) hx hb dX0_outermost_22 hl (k := 0) rfl (by first | rfl | decide) (Nat.le_of_ble_eq_true rfl) rfl (fun ls hl => ?_)
          refine lv_goto (tgt := 4) hx hb dX0_outermost_25 (by decide) ?_
          refine lv_iload_n hx hb dX0_outermost_4 rfl (lv_at hl 0 rfl) ?_
          refine lv_bipush (v := (6 : Int32)) hx hb dX0_outermost_5 qb_6 ?_
          refine lv_icmp_ge (tgt := 28) hx hb dX0_outermost_7 (by decide) (fun c_x => absurd c_x (by decide)) (fun _ => ?_)
          refine lv_aload_n hx hb dX0_outermost_10 rfl (lv_at hl 2 rfl) ?_
          refine lv_iload_n hx hb dX0_outermost_11 rfl (lv_at hl 0 rfl) ?_
          refine lv_iload_n hx hb dX0_outermost_12 rfl (lv_at hl 1 rfl) ?_
          refine rcVi (as := [.int (5 : Int32), .int (2 : Int32)]) (rest := []) (cl := RX0) C (c_X0_order l G a S (5 : Int32) (2 : Int32) (vp_in_lit 5) (vp_in_lit 2)) F_X0_order rfl bw236 bw238 bw9 hE hP (rv2 hE.K hP (q0 := 0) rfl) hl.1 dX0_outermost_13 ⟨Nat.le_of_ble_eq_true rfl, Nat.le_of_ble_eq_true rfl⟩ rfl (Nat.le_of_ble_eq_true rfl) ⟨Nat.zero_le _, Nat.zero_le _⟩ ?_
          refine lv_iload_n hx hb dX0_outermost_16 rfl (lv_at hl 3 rfl) ?_
          refine lv_icmp_ne (tgt := 22) hx hb dX0_outermost_17 (by decide) (fun c_27 => ?_) (fun c_27 => ?_)
          · refine lv_iinc (v := (6 : Int32)) (lv' := [(3, .int (6 : Int32)), (2, .int (2 : Int32)), (0, .ref (a 0)), (1, .int p0)]) hx hb dX0_outermost_22 hl (k := 0) rfl (by first | rfl | decide) (Nat.le_of_ble_eq_true rfl) rfl (fun ls hl => ?_)
            refine lv_goto (tgt := 4) hx hb dX0_outermost_25 (by decide) ?_
            refine lv_iload_n hx hb dX0_outermost_4 rfl (lv_at hl 0 rfl) ?_
            refine lv_bipush (v := (6 : Int32)) hx hb dX0_outermost_5 qb_6 ?_
            refine lv_icmp_ge (tgt := 28) hx hb dX0_outermost_7 (by decide) (fun _ => ?_) (fun c_x => absurd (show (6 : Int32) ≤ (6 : Int32) from by decide) c_x)
            refine lv_iload_n hx hb dX0_outermost_28 rfl (lv_at hl 1 rfl) ?_
            exact re_i hx hb hr hk dX0_outermost_29 (ei (Eq.trans (if_pos c_1) (Eq.trans (if_pos c_17) (Eq.trans (if_neg c_25) (Eq.trans (if_neg c_26) (if_neg c_27))))))
          · refine lv_iload_n hx hb dX0_outermost_20 rfl (lv_at hl 0 rfl) ?_
            refine lv_istore_n (lv' := [(2, .int (5 : Int32)), (3, .int (5 : Int32)), (0, .ref (a 0)), (1, .int p0)]) hx hb dX0_outermost_21 rfl hl (Nat.le_of_ble_eq_true rfl) rfl (fun ls hl => ?_)
            refine lv_iinc (v := (6 : Int32)) (lv' := [(3, .int (6 : Int32)), (2, .int (5 : Int32)), (0, .ref (a 0)), (1, .int p0)]) hx hb dX0_outermost_22 hl (k := 1) rfl (by first | rfl | decide) (Nat.le_of_ble_eq_true rfl) rfl (fun ls hl => ?_)
            refine lv_goto (tgt := 4) hx hb dX0_outermost_25 (by decide) ?_
            refine lv_iload_n hx hb dX0_outermost_4 rfl (lv_at hl 0 rfl) ?_
            refine lv_bipush (v := (6 : Int32)) hx hb dX0_outermost_5 qb_6 ?_
            refine lv_icmp_ge (tgt := 28) hx hb dX0_outermost_7 (by decide) (fun _ => ?_) (fun c_x => absurd (show (6 : Int32) ≤ (6 : Int32) from by decide) c_x)
            refine lv_iload_n hx hb dX0_outermost_28 rfl (lv_at hl 1 rfl) ?_
            exact re_i hx hb hr hk dX0_outermost_29 (ei (Eq.trans (if_pos c_1) (Eq.trans (if_pos c_17) (Eq.trans (if_neg c_25) (Eq.trans (if_neg c_26) (if_pos c_27))))))
        · refine lv_iload_n hx hb dX0_outermost_20 rfl (lv_at hl 0 rfl) ?_
          refine lv_istore_n (lv' := [(2, .int (4 : Int32)), (3, .int (4 : Int32)), (0, .ref (a 0)), (1, .int p0)]) hx hb dX0_outermost_21 rfl hl (Nat.le_of_ble_eq_true rfl) rfl (fun ls hl => ?_)
          refine lv_iinc (v := (5 : Int32)) (lv' := [(3, .int (5 : Int32)), (2, .int (4 : Int32)), (0, .ref (a 0)), (1, .int p0)]) hx hb dX0_outermost_22 hl (k := 1) rfl (by first | rfl | decide) (Nat.le_of_ble_eq_true rfl) rfl (fun ls hl => ?_)
          refine lv_goto (tgt := 4) hx hb dX0_outermost_25 (by decide) ?_
          refine lv_iload_n hx hb dX0_outermost_4 rfl (lv_at hl 0 rfl) ?_
          refine lv_bipush (v := (6 : Int32)) hx hb dX0_outermost_5 qb_6 ?_
          refine lv_icmp_ge (tgt := 28) hx hb dX0_outermost_7 (by decide) (fun c_x => absurd c_x (by decide)) (fun _ => ?_)
          refine lv_aload_n hx hb dX0_outermost_10 rfl (lv_at hl 2 rfl) ?_
          refine lv_iload_n hx hb dX0_outermost_11 rfl (lv_at hl 0 rfl) ?_
          refine lv_iload_n hx hb dX0_outermost_12 rfl (lv_at hl 1 rfl) ?_
          refine rcVi (as := [.int (5 : Int32), .int (4 : Int32)]) (rest := []) (cl := RX0) C (c_X0_order l G a S (5 : Int32) (4 : Int32) (vp_in_lit 5) (vp_in_lit 4)) F_X0_order rfl bw236 bw238 bw9 hE hP (rv2 hE.K hP (q0 := 0) rfl) hl.1 dX0_outermost_13 ⟨Nat.le_of_ble_eq_true rfl, Nat.le_of_ble_eq_true rfl⟩ rfl (Nat.le_of_ble_eq_true rfl) ⟨Nat.zero_le _, Nat.zero_le _⟩ ?_
          refine lv_iload_n hx hb dX0_outermost_16 rfl (lv_at hl 3 rfl) ?_
          refine lv_icmp_ne (tgt := 22) hx hb dX0_outermost_17 (by decide) (fun c_28 => ?_) (fun c_28 => ?_)
          · refine lv_iinc (v := (6 : Int32)) (lv' := [(3, .int (6 : Int32)), (2, .int (4 : Int32)), (0, .ref (a 0)), (1, .int p0)]) hx hb dX0_outermost_22 hl (k := 0) rfl (by first | rfl | decide) (Nat.le_of_ble_eq_true rfl) rfl (fun ls hl => ?_)
            refine lv_goto (tgt := 4) hx hb dX0_outermost_25 (by decide) ?_
            refine lv_iload_n hx hb dX0_outermost_4 rfl (lv_at hl 0 rfl) ?_
            refine lv_bipush (v := (6 : Int32)) hx hb dX0_outermost_5 qb_6 ?_
            refine lv_icmp_ge (tgt := 28) hx hb dX0_outermost_7 (by decide) (fun _ => ?_) (fun c_x => absurd (show (6 : Int32) ≤ (6 : Int32) from by decide) c_x)
            refine lv_iload_n hx hb dX0_outermost_28 rfl (lv_at hl 1 rfl) ?_
            exact re_i hx hb hr hk dX0_outermost_29 (ei (Eq.trans (if_pos c_1) (Eq.trans (if_pos c_17) (Eq.trans (if_neg c_25) (Eq.trans (if_pos c_26) (if_neg c_28))))))
          · refine lv_iload_n hx hb dX0_outermost_20 rfl (lv_at hl 0 rfl) ?_
            refine lv_istore_n (lv' := [(2, .int (5 : Int32)), (3, .int (5 : Int32)), (0, .ref (a 0)), (1, .int p0)]) hx hb dX0_outermost_21 rfl hl (Nat.le_of_ble_eq_true rfl) rfl (fun ls hl => ?_)
            refine lv_iinc (v := (6 : Int32)) (lv' := [(3, .int (6 : Int32)), (2, .int (5 : Int32)), (0, .ref (a 0)), (1, .int p0)]) hx hb dX0_outermost_22 hl (k := 1) rfl (by first | rfl | decide) (Nat.le_of_ble_eq_true rfl) rfl (fun ls hl => ?_)
            refine lv_goto (tgt := 4) hx hb dX0_outermost_25 (by decide) ?_
            refine lv_iload_n hx hb dX0_outermost_4 rfl (lv_at hl 0 rfl) ?_
            refine lv_bipush (v := (6 : Int32)) hx hb dX0_outermost_5 qb_6 ?_
            refine lv_icmp_ge (tgt := 28) hx hb dX0_outermost_7 (by decide) (fun _ => ?_) (fun c_x => absurd (show (6 : Int32) ≤ (6 : Int32) from by decide) c_x)
            refine lv_iload_n hx hb dX0_outermost_28 rfl (lv_at hl 1 rfl) ?_
            exact re_i hx hb hr hk dX0_outermost_29 (ei (Eq.trans (if_pos c_1) (Eq.trans (if_pos c_17) (Eq.trans (if_neg c_25) (Eq.trans (if_pos c_26) (if_pos c_28))))))
      · refine lv_iload_n hx hb dX0_outermost_20 rfl (lv_at hl 0 rfl) ?_
        refine lv_istore_n (lv' := [(2, .int (3 : Int32)), (3, .int (3 : Int32)), (0, .ref (a 0)), (1, .int p0)]) hx hb dX0_outermost_21 rfl hl (Nat.le_of_ble_eq_true rfl) rfl (fun ls hl => ?_)
        refine lv_iinc (v := (4 : Int32)) (lv' := [(3, .int (4 : Int32)), (2, .int (3 : Int32)), (0, .ref (a 0)), (1, .int p0)]) hx hb dX0_outermost_22 hl (k := 1) rfl (by first | rfl | decide) (Nat.le_of_ble_eq_true rfl) rfl (fun ls hl => ?_)
        refine lv_goto (tgt := 4) hx hb dX0_outermost_25 (by decide) ?_
        refine lv_iload_n hx hb dX0_outermost_4 rfl (lv_at hl 0 rfl) ?_
        refine lv_bipush (v := (6 : Int32)) hx hb dX0_outermost_5 qb_6 ?_
        refine lv_icmp_ge (tgt := 28) hx hb dX0_outermost_7 (by decide) (fun c_x => absurd c_x (by decide)) (fun _ => ?_)
        refine lv_aload_n hx hb dX0_outermost_10 rfl (lv_at hl 2 rfl) ?_
        refine lv_iload_n hx hb dX0_outermost_11 rfl (lv_at hl 0 rfl) ?_
        refine lv_iload_n hx hb dX0_outermost_12 rfl (lv_at hl 1 rfl) ?_
        refine rcVi (as := [.int (4 : Int32), .int (3 : Int32)]) (rest := []) (cl := RX0) C (c_X0_order l G a S (4 : Int32) (3 : Int32) (vp_in_lit 4) (vp_in_lit 3)) F_X0_order rfl bw236 bw238 bw9 hE hP (rv2 hE.K hP (q0 := 0) rfl) hl.1 dX0_outermost_13 ⟨Nat.le_of_ble_eq_true rfl, Nat.le_of_ble_eq_true rfl⟩ rfl (Nat.le_of_ble_eq_true rfl) ⟨Nat.zero_le _, Nat.zero_le _⟩ ?_
        refine lv_iload_n hx hb dX0_outermost_16 rfl (lv_at hl 3 rfl) ?_
        refine lv_icmp_ne (tgt := 22) hx hb dX0_outermost_17 (by decide) (fun c_29 => ?_) (fun c_29 => ?_)
        · refine lv_iinc (v := (5 : Int32)) (lv' := [(3, .int (5 : Int32)), (2, .int (3 : Int32)), (0, .ref (a 0)), (1, .int p0)]) hx hb dX0_outermost_22 hl (k := 0) rfl (by first | rfl | decide) (Nat.le_of_ble_eq_true rfl) rfl (fun ls hl => ?_)
          refine lv_goto (tgt := 4) hx hb dX0_outermost_25 (by decide) ?_
          refine lv_iload_n hx hb dX0_outermost_4 rfl (lv_at hl 0 rfl) ?_
          refine lv_bipush (v := (6 : Int32)) hx hb dX0_outermost_5 qb_6 ?_
          refine lv_icmp_ge (tgt := 28) hx hb dX0_outermost_7 (by decide) (fun c_x => absurd c_x (by decide)) (fun _ => ?_)
          refine lv_aload_n hx hb dX0_outermost_10 rfl (lv_at hl 2 rfl) ?_
          refine lv_iload_n hx hb dX0_outermost_11 rfl (lv_at hl 0 rfl) ?_
          refine lv_iload_n hx hb dX0_outermost_12 rfl (lv_at hl 1 rfl) ?_
          refine rcVi (as := [.int (5 : Int32), .int (3 : Int32)]) (rest := []) (cl := RX0) C (c_X0_order l G a S (5 : Int32) (3 : Int32) (vp_in_lit 5) (vp_in_lit 3)) F_X0_order rfl bw236 bw238 bw9 hE hP (rv2 hE.K hP (q0 := 0) rfl) hl.1 dX0_outermost_13 ⟨Nat.le_of_ble_eq_true rfl, Nat.le_of_ble_eq_true rfl⟩ rfl (Nat.le_of_ble_eq_true rfl) ⟨Nat.zero_le _, Nat.zero_le _⟩ ?_
          refine lv_iload_n hx hb dX0_outermost_16 rfl (lv_at hl 3 rfl) ?_
          refine lv_icmp_ne (tgt := 22) hx hb dX0_outermost_17 (by decide) (fun c_30 => ?_) (fun c_30 => ?_)
          · refine lv_iinc (v := (6 : Int32)) (lv' := [(3, .int (6 : Int32)), (2, .int (3 : Int32)), (0, .ref (a 0)), (1, .int p0)]) hx hb dX0_outermost_22 hl (k := 0) rfl (by first | rfl | decide) (Nat.le_of_ble_eq_true rfl) rfl (fun ls hl => ?_)
            refine lv_goto (tgt := 4) hx hb dX0_outermost_25 (by decide) ?_
            refine lv_iload_n hx hb dX0_outermost_4 rfl (lv_at hl 0 rfl) ?_
            refine lv_bipush (v := (6 : Int32)) hx hb dX0_outermost_5 qb_6 ?_
            refine lv_icmp_ge (tgt := 28) hx hb dX0_outermost_7 (by decide) (fun _ => ?_) (fun c_x => absurd (show (6 : Int32) ≤ (6 : Int32) from by decide) c_x)
            refine lv_iload_n hx hb dX0_outermost_28 rfl (lv_at hl 1 rfl) ?_
            exact re_i hx hb hr hk dX0_outermost_29 (ei (Eq.trans (if_pos c_1) (Eq.trans (if_pos c_17) (Eq.trans (if_pos c_25) (Eq.trans (if_neg c_29) (if_neg c_30))))))
          · refine lv_iload_n hx hb dX0_outermost_20 rfl (lv_at hl 0 rfl) ?_
            refine lv_istore_n (lv' := [(2, .int (5 : Int32)), (3, .int (5 : Int32)), (0, .ref (a 0)), (1, .int p0)]) hx hb dX0_outermost_21 rfl hl (Nat.le_of_ble_eq_true rfl) rfl (fun ls hl => ?_)
            refine lv_iinc (v := (6 : Int32)) (lv' := [(3, .int (6 : Int32)), (2, .int (5 : Int32)), (0, .ref (a 0)), (1, .int p0)]) hx hb dX0_outermost_22 hl (k := 1) rfl (by first | rfl | decide) (Nat.le_of_ble_eq_true rfl) rfl (fun ls hl => ?_)
            refine lv_goto (tgt := 4) hx hb dX0_outermost_25 (by decide) ?_
            refine lv_iload_n hx hb dX0_outermost_4 rfl (lv_at hl 0 rfl) ?_
            refine lv_bipush (v := (6 : Int32)) hx hb dX0_outermost_5 qb_6 ?_
            refine lv_icmp_ge (tgt := 28) hx hb dX0_outermost_7 (by decide) (fun _ => ?_) (fun c_x => absurd (show (6 : Int32) ≤ (6 : Int32) from by decide) c_x)
            refine lv_iload_n hx hb dX0_outermost_28 rfl (lv_at hl 1 rfl) ?_
            exact re_i hx hb hr hk dX0_outermost_29 (ei (Eq.trans (if_pos c_1) (Eq.trans (if_pos c_17) (Eq.trans (if_pos c_25) (Eq.trans (if_neg c_29) (if_pos c_30))))))
        · refine lv_iload_n hx hb dX0_outermost_20 rfl (lv_at hl 0 rfl) ?_
          refine lv_istore_n (lv' := [(2, .int (4 : Int32)), (3, .int (4 : Int32)), (0, .ref (a 0)), (1, .int p0)]) hx hb dX0_outermost_21 rfl hl (Nat.le_of_ble_eq_true rfl) rfl (fun ls hl => ?_)
          refine lv_iinc (v := (5 : Int32)) (lv' := [(3, .int (5 : Int32)), (2, .int (4 : Int32)), (0, .ref (a 0)), (1, .int p0)]) hx hb dX0_outermost_22 hl (k := 1) rfl (by first | rfl | decide) (Nat.le_of_ble_eq_true rfl) rfl (fun ls hl => ?_)
          refine lv_goto (tgt := 4) hx hb dX0_outermost_25 (by decide) ?_
          refine lv_iload_n hx hb dX0_outermost_4 rfl (lv_at hl 0 rfl) ?_
          refine lv_bipush (v := (6 : Int32)) hx hb dX0_outermost_5 qb_6 ?_
          refine lv_icmp_ge (tgt := 28) hx hb dX0_outermost_7 (by decide) (fun c_x => absurd c_x (by decide)) (fun _ => ?_)
          refine lv_aload_n hx hb dX0_outermost_10 rfl (lv_at hl 2 rfl) ?_
          refine lv_iload_n hx hb dX0_outermost_11 rfl (lv_at hl 0 rfl) ?_
          refine lv_iload_n hx hb dX0_outermost_12 rfl (lv_at hl 1 rfl) ?_
          refine rcVi (as := [.int (5 : Int32), .int (4 : Int32)]) (rest := []) (cl := RX0) C (c_X0_order l G a S (5 : Int32) (4 : Int32) (vp_in_lit 5) (vp_in_lit 4)) F_X0_order rfl bw236 bw238 bw9 hE hP (rv2 hE.K hP (q0 := 0) rfl) hl.1 dX0_outermost_13 ⟨Nat.le_of_ble_eq_true rfl, Nat.le_of_ble_eq_true rfl⟩ rfl (Nat.le_of_ble_eq_true rfl) ⟨Nat.zero_le _, Nat.zero_le _⟩ ?_
          refine lv_iload_n hx hb dX0_outermost_16 rfl (lv_at hl 3 rfl) ?_
          refine lv_icmp_ne (tgt := 22) hx hb dX0_outermost_17 (by decide) (fun c_31 => ?_) (fun c_31 => ?_)
          · refine lv_iinc (v := (6 : Int32)) (lv' := [(3, .int (6 : Int32)), (2, .int (4 : Int32)), (0, .ref (a 0)), (1, .int p0)]) hx hb dX0_outermost_22 hl (k := 0) rfl (by first | rfl | decide) (Nat.le_of_ble_eq_true rfl) rfl (fun ls hl => ?_)
            refine lv_goto (tgt := 4) hx hb dX0_outermost_25 (by decide) ?_
            refine lv_iload_n hx hb dX0_outermost_4 rfl (lv_at hl 0 rfl) ?_
            refine lv_bipush (v := (6 : Int32)) hx hb dX0_outermost_5 qb_6 ?_
            refine lv_icmp_ge (tgt := 28) hx hb dX0_outermost_7 (by decide) (fun _ => ?_) (fun c_x => absurd (show (6 : Int32) ≤ (6 : Int32) from by decide) c_x)
            refine lv_iload_n hx hb dX0_outermost_28 rfl (lv_at hl 1 rfl) ?_
            exact re_i hx hb hr hk dX0_outermost_29 (ei (Eq.trans (if_pos c_1) (Eq.trans (if_pos c_17) (Eq.trans (if_pos c_25) (Eq.trans (if_pos c_29) (if_neg c_31))))))
          · refine lv_iload_n hx hb dX0_outermost_20 rfl (lv_at hl 0 rfl) ?_
            refine lv_istore_n (lv' := [(2, .int (5 : Int32)), (3, .int (5 : Int32)), (0, .ref (a 0)), (1, .int p0)]) hx hb dX0_outermost_21 rfl hl (Nat.le_of_ble_eq_true rfl) rfl (fun ls hl => ?_)
            refine lv_iinc (v := (6 : Int32)) (lv' := [(3, .int (6 : Int32)), (2, .int (5 : Int32)), (0, .ref (a 0)), (1, .int p0)]) hx hb dX0_outermost_22 hl (k := 1) rfl (by first | rfl | decide) (Nat.le_of_ble_eq_true rfl) rfl (fun ls hl => ?_)
            refine lv_goto (tgt := 4) hx hb dX0_outermost_25 (by decide) ?_
            refine lv_iload_n hx hb dX0_outermost_4 rfl (lv_at hl 0 rfl) ?_
            refine lv_bipush (v := (6 : Int32)) hx hb dX0_outermost_5 qb_6 ?_
            refine lv_icmp_ge (tgt := 28) hx hb dX0_outermost_7 (by decide) (fun _ => ?_) (fun c_x => absurd (show (6 : Int32) ≤ (6 : Int32) from by decide) c_x)
            refine lv_iload_n hx hb dX0_outermost_28 rfl (lv_at hl 1 rfl) ?_
            exact re_i hx hb hr hk dX0_outermost_29 (ei (Eq.trans (if_pos c_1) (Eq.trans (if_pos c_17) (Eq.trans (if_pos c_25) (Eq.trans (if_pos c_29) (if_pos c_31))))))

set_option maxRecDepth 100000 in
set_option maxHeartbeats 4000000 in
theorem c_X0_houseNumber (l : Launch) (G : GT) (a : Nat → Nat) (S : SX) (p0 : Int32) : RO l G yX0_houseNumber cX0_houseNumber 2 (some .int) 4 [.ref (a 0), .int p0] (wX G a S) (some (.int (fX0_houseNumber S p0))) := by
  refine RO.ofW (own := RX0) rfl (plainFor_of_name pnN_RX0) (Nat.le_of_ble_eq_true rfl) ?_
  intro p e s m below meth c C hr hk hE hP ls hl
  have hx := C.1
  have hb := C.2.1
  have hown := C.2.2.2.1
  have hw := C.2.2.2.2
  have hl : lv_has ls 2 [(0, .ref (a 0)), (1, .int p0)] := hl
  refine lv_iload_n hx hb dX0_houseNumber_0 rfl (lv_at hl 1 rfl) ?_
  by_cases c_1 : p0 = (0 : Int32)
  · refine lv_tableIn (tgt := 36) (off := 35) hx hb dX0_houseNumber_1 (by rw [c_1]; decide) (by rw [c_1]; decide) (by rw [c_1]; decide) (by decide) ?_
    refine lv_aload_n hx hb dX0_houseNumber_36 rfl (lv_at hl 0 rfl) ?_
    refine va_get (D := gD G) (cl := vwCl) (tys := gT G) (ci := 2) (v := .int (xi S 4)) (C := RX0) (T := TX0) (N := 12) hx hb hw inB_X0 hown hE.K hP 0 rfl rfl 9 (by decide) (hw _ bw103) (fun _ h9 => h9) rfl dX0_houseNumber_37 ?_
    exact re_i hx hb hr hk dX0_houseNumber_40 (ei (if_pos c_1))
  by_cases c_2 : p0 = (1 : Int32)
  · refine lv_tableIn (tgt := 41) (off := 40) hx hb dX0_houseNumber_1 (by rw [c_2]; decide) (by rw [c_2]; decide) (by rw [c_2]; decide) (by decide) ?_
    refine lv_aload_n hx hb dX0_houseNumber_41 rfl (lv_at hl 0 rfl) ?_
    refine va_get (D := gD G) (cl := vwCl) (tys := gT G) (ci := 2) (v := .int (xi S 5)) (C := RX0) (T := TX0) (N := 12) hx hb hw inB_X0 hown hE.K hP 0 rfl rfl 10 (by decide) (hw _ bw104) (fun _ h9 => h9) rfl dX0_houseNumber_42 ?_
    exact re_i hx hb hr hk dX0_houseNumber_45 (ei (Eq.trans (if_neg c_1) (if_pos c_2)))
  by_cases c_3 : p0 = (2 : Int32)
  · refine lv_tableIn (tgt := 46) (off := 45) hx hb dX0_houseNumber_1 (by rw [c_3]; decide) (by rw [c_3]; decide) (by rw [c_3]; decide) (by decide) ?_
    refine lv_aload_n hx hb dX0_houseNumber_46 rfl (lv_at hl 0 rfl) ?_
    refine rcVi (as := []) (rest := []) (cl := RX0) C (c_X0_countRepeated l G a S) F_X0_countRepeated rfl bw274 bw276 bw14 hE hP (rv2 hE.K hP (q0 := 0) rfl) hl.1 dX0_houseNumber_47 ⟨Nat.le_of_ble_eq_true rfl, Nat.le_of_ble_eq_true rfl⟩ rfl (Nat.le_of_ble_eq_true rfl) ⟨Nat.zero_le _, Nat.zero_le _⟩ ?_
    exact re_i hx hb hr hk dX0_houseNumber_50 (ei (Eq.trans (if_neg c_1) (Eq.trans (if_neg c_2) (if_pos c_3))))
  by_cases c_4 : p0 = (3 : Int32)
  · refine lv_tableIn (tgt := 51) (off := 50) hx hb dX0_houseNumber_1 (by rw [c_4]; decide) (by rw [c_4]; decide) (by rw [c_4]; decide) (by decide) ?_
    refine lv_aload_n hx hb dX0_houseNumber_51 rfl (lv_at hl 0 rfl) ?_
    refine lv_iconst (v := (-1 : Int32)) hx hb dX0_houseNumber_52 qi_m1 ?_
    refine rcVi (as := [.int (-1 : Int32)]) (rest := []) (cl := RX0) C (c_X0_outermost l G a S (-1 : Int32)) F_X0_outermost rfl bw282 bw284 bw16 hE hP (rv2 hE.K hP (q0 := 0) rfl) hl.1 dX0_houseNumber_53 ⟨Nat.le_of_ble_eq_true rfl, Nat.le_of_ble_eq_true rfl⟩ rfl (Nat.le_of_ble_eq_true rfl) ⟨Nat.zero_le _, Nat.zero_le _⟩ ?_
    exact re_i hx hb hr hk dX0_houseNumber_56 (ei (Eq.trans (if_neg c_1) (Eq.trans (if_neg c_2) (Eq.trans (if_neg c_3) (if_pos c_4)))))
  by_cases c_5 : p0 = (4 : Int32)
  · refine lv_tableIn (tgt := 57) (off := 56) hx hb dX0_houseNumber_1 (by rw [c_5]; decide) (by rw [c_5]; decide) (by rw [c_5]; decide) (by decide) ?_
    refine lv_aload_n hx hb dX0_houseNumber_57 rfl (lv_at hl 0 rfl) ?_
    refine lv_iconst (v := (1 : Int32)) hx hb dX0_houseNumber_58 qi_1 ?_
    refine rcVi (as := [.int (1 : Int32)]) (rest := []) (cl := RX0) C (c_X0_outermost l G a S (1 : Int32)) F_X0_outermost rfl bw282 bw284 bw16 hE hP (rv2 hE.K hP (q0 := 0) rfl) hl.1 dX0_houseNumber_59 ⟨Nat.le_of_ble_eq_true rfl, Nat.le_of_ble_eq_true rfl⟩ rfl (Nat.le_of_ble_eq_true rfl) ⟨Nat.zero_le _, Nat.zero_le _⟩ ?_
    exact re_i hx hb hr hk dX0_houseNumber_62 (ei (Eq.trans (if_neg c_1) (Eq.trans (if_neg c_2) (Eq.trans (if_neg c_3) (Eq.trans (if_neg c_4) (if_pos c_5))))))
  have nc_1 := lv_neT c_1 (a := 0) (by decide)
  have nc_2 := lv_neT c_2 (a := 1) (by decide)
  have nc_3 := lv_neT c_3 (a := 2) (by decide)
  have nc_4 := lv_neT c_4 (a := 3) (by decide)
  have nc_5 := lv_neT c_5 (a := 4) (by decide)
  refine lv_tableOut (tgt := 63) hx hb dX0_houseNumber_1 (by omega) (by decide) ?_
  refine lv_aload_n hx hb dX0_houseNumber_63 rfl (lv_at hl 0 rfl) ?_
  refine va_get (D := gD G) (cl := vwCl) (tys := gT G) (ci := 2) (v := .int (xi S 6)) (C := RX0) (T := TX0) (N := 12) hx hb hw inB_X0 hown hE.K hP 0 rfl rfl 11 (by decide) (hw _ bw105) (fun _ h9 => h9) rfl dX0_houseNumber_64 ?_
  exact re_i hx hb hr hk dX0_houseNumber_67 (ei (Eq.trans (if_neg c_1) (Eq.trans (if_neg c_2) (Eq.trans (if_neg c_3) (Eq.trans (if_neg c_4) (if_neg c_5))))))

set_option maxRecDepth 100000 in
set_option maxHeartbeats 4000000 in
theorem c_X0_mixMoment (l : Launch) (G : GT) (a : Nat → Nat) (S : SX) (p0 : Int64) (p1 : Int32) (h1 : vp_in p1 6) : RO l G yX0_mixMoment cX0_mixMoment 8 (some .long) 4 [.ref (a 0), .long p0, .int p1] (wX G a S) (some (.long (fX0_mixMoment S p0 p1))) := by
  refine RO.ofW (own := RX0) rfl (plainFor_of_name pnN_RX0) (Nat.le_of_ble_eq_true rfl) ?_
  intro p e s m below meth c C hr hk hE hP ls hl
  have hx := C.1
  have hb := C.2.1
  have hown := C.2.2.2.1
  have hw := C.2.2.2.2
  have hl : lv_has ls 8 [(0, .ref (a 0)), (1, .long p0), (3, .int p1)] := hl
  refine lv_aload_n hx hb dX0_mixMoment_0 rfl (lv_at hl 0 rfl) ?_
  refine va_get (D := gD G) (cl := vwCl) (tys := gT G) (ci := 2) (v := .ref (a 5)) (C := RX0) (T := TX0) (N := 12) hx hb hw inB_X0 hown hE.K hP 0 rfl rfl 4 (by decide) (hw _ bw98) (fun _ h9 => h9) rfl dX0_mixMoment_1 ?_
  refine lv_iload_n hx hb dX0_mixMoment_4 rfl (lv_at hl 2 rfl) ?_
  refine va_lald (tys := gT G) hx hb hE.K hP 5 1 rfl rfl h1 dX0_mixMoment_5 ?_
  refine lv_lstore (lv' := [(4, .long (xN S p1.toNatClampNeg)), (0, .ref (a 0)), (1, .long p0), (3, .int p1)]) hx hb dX0_mixMoment_6 hl (Nat.le_of_ble_eq_true rfl) rfl (fun ls hl => ?_)
  refine lv_lload_n hx hb dX0_mixMoment_8 rfl (lv_at hl 2 rfl) ?_
  refine lv_aload_n hx hb dX0_mixMoment_9 rfl (lv_at hl 1 rfl) ?_
  refine va_get (D := gD G) (cl := vwCl) (tys := gT G) (ci := 2) (v := .ref (a 1)) (C := RX0) (T := TX0) (N := 12) hx hb hw inB_X0 hown hE.K hP 0 rfl rfl 0 (by decide) (hw _ bw94) (fun _ h9 => h9) rfl dX0_mixMoment_10 ?_
  refine lv_iload_n hx hb dX0_mixMoment_13 rfl (lv_at hl 3 rfl) ?_
  refine va_iald (tys := gT G) hx hb hE.K hP 1 0 rfl rfl h1 dX0_mixMoment_14 ?_
  refine lv_i2l (v := ((xy S p1.toNatClampNeg).toInt64)) hx hb dX0_mixMoment_15 (by first | rfl | decide) ?_
  refine rcSl (as := [.long p0, .long ((xy S p1.toNatClampNeg).toInt64)]) (rest := []) C (c_X0_mix l G p0 ((xy S p1.toNatClampNeg).toInt64)) F_X0_mix rfl bw258 bw259 hE vpn hl.1 dX0_mixMoment_16 ⟨Nat.le_of_ble_eq_true rfl, Nat.le_of_ble_eq_true rfl⟩ rfl (Nat.le_of_ble_eq_true rfl) ⟨Nat.zero_le _, Nat.zero_le _⟩ ?_
  refine lv_lstore (lv' := [(6, .long (fX0_mix p0 ((xy S p1.toNatClampNeg).toInt64))), (4, .long (xN S p1.toNatClampNeg)), (0, .ref (a 0)), (1, .long p0), (3, .int p1)]) hx hb dX0_mixMoment_19 hl (Nat.le_of_ble_eq_true rfl) rfl (fun ls hl => ?_)
  refine lv_lload hx hb dX0_mixMoment_21 (lv_at hl 0 rfl) ?_
  refine lv_aload_n hx hb dX0_mixMoment_23 rfl (lv_at hl 2 rfl) ?_
  refine va_get (D := gD G) (cl := vwCl) (tys := gT G) (ci := 2) (v := .ref (a 2)) (C := RX0) (T := TX0) (N := 12) hx hb hw inB_X0 hown hE.K hP 0 rfl rfl 1 (by decide) (hw _ bw95) (fun _ h9 => h9) rfl dX0_mixMoment_24 ?_
  refine lv_iload_n hx hb dX0_mixMoment_27 rfl (lv_at hl 4 rfl) ?_
  refine va_iald (tys := gT G) hx hb hE.K hP 2 0 rfl rfl h1 dX0_mixMoment_28 ?_
  refine lv_i2l (v := ((xm S p1.toNatClampNeg).toInt64)) hx hb dX0_mixMoment_29 (by first | rfl | decide) ?_
  refine rcSl (as := [.long (fX0_mix p0 ((xy S p1.toNatClampNeg).toInt64)), .long ((xm S p1.toNatClampNeg).toInt64)]) (rest := []) C (c_X0_mix l G (fX0_mix p0 ((xy S p1.toNatClampNeg).toInt64)) ((xm S p1.toNatClampNeg).toInt64)) F_X0_mix rfl bw258 bw259 hE vpn hl.1 dX0_mixMoment_30 ⟨Nat.le_of_ble_eq_true rfl, Nat.le_of_ble_eq_true rfl⟩ rfl (Nat.le_of_ble_eq_true rfl) ⟨Nat.zero_le _, Nat.zero_le _⟩ ?_
  refine lv_lstore (lv' := [(6, .long (fX0_mix (fX0_mix p0 ((xy S p1.toNatClampNeg).toInt64)) ((xm S p1.toNatClampNeg).toInt64))), (4, .long (xN S p1.toNatClampNeg)), (0, .ref (a 0)), (1, .long p0), (3, .int p1)]) hx hb dX0_mixMoment_33 hl (Nat.le_of_ble_eq_true rfl) rfl (fun ls hl => ?_)
  refine lv_lload hx hb dX0_mixMoment_35 (lv_at hl 0 rfl) ?_
  refine lv_aload_n hx hb dX0_mixMoment_37 rfl (lv_at hl 2 rfl) ?_
  refine va_get (D := gD G) (cl := vwCl) (tys := gT G) (ci := 2) (v := .ref (a 3)) (C := RX0) (T := TX0) (N := 12) hx hb hw inB_X0 hown hE.K hP 0 rfl rfl 2 (by decide) (hw _ bw96) (fun _ h9 => h9) rfl dX0_mixMoment_38 ?_
  refine lv_iload_n hx hb dX0_mixMoment_41 rfl (lv_at hl 4 rfl) ?_
  refine va_iald (tys := gT G) hx hb hE.K hP 3 0 rfl rfl h1 dX0_mixMoment_42 ?_
  refine lv_i2l (v := ((xd S p1.toNatClampNeg).toInt64)) hx hb dX0_mixMoment_43 (by first | rfl | decide) ?_
  refine rcSl (as := [.long (fX0_mix (fX0_mix p0 ((xy S p1.toNatClampNeg).toInt64)) ((xm S p1.toNatClampNeg).toInt64)), .long ((xd S p1.toNatClampNeg).toInt64)]) (rest := []) C (c_X0_mix l G (fX0_mix (fX0_mix p0 ((xy S p1.toNatClampNeg).toInt64)) ((xm S p1.toNatClampNeg).toInt64)) ((xd S p1.toNatClampNeg).toInt64)) F_X0_mix rfl bw258 bw259 hE vpn hl.1 dX0_mixMoment_44 ⟨Nat.le_of_ble_eq_true rfl, Nat.le_of_ble_eq_true rfl⟩ rfl (Nat.le_of_ble_eq_true rfl) ⟨Nat.zero_le _, Nat.zero_le _⟩ ?_
  refine lv_lstore (lv' := [(6, .long (fX0_mix (fX0_mix (fX0_mix p0 ((xy S p1.toNatClampNeg).toInt64)) ((xm S p1.toNatClampNeg).toInt64)) ((xd S p1.toNatClampNeg).toInt64))), (4, .long (xN S p1.toNatClampNeg)), (0, .ref (a 0)), (1, .long p0), (3, .int p1)]) hx hb dX0_mixMoment_47 hl (Nat.le_of_ble_eq_true rfl) rfl (fun ls hl => ?_)
  refine lv_lload hx hb dX0_mixMoment_49 (lv_at hl 0 rfl) ?_
  refine lv_aload_n hx hb dX0_mixMoment_51 rfl (lv_at hl 2 rfl) ?_
  refine lv_iload_n hx hb dX0_mixMoment_52 rfl (lv_at hl 4 rfl) ?_
  refine rcVi (as := [.int p1]) (rest := [.long (fX0_mix (fX0_mix (fX0_mix p0 ((xy S p1.toNatClampNeg).toInt64)) ((xm S p1.toNatClampNeg).toInt64)) ((xd S p1.toNatClampNeg).toInt64))]) (cl := RX0) C (c_X0_yearDay l G a S p1 h1) F_X0_yearDay rfl bw182 bw184 bw3 hE hP (rv2 hE.K hP (q0 := 0) rfl) hl.1 dX0_mixMoment_53 ⟨Nat.le_of_ble_eq_true rfl, Nat.le_of_ble_eq_true rfl⟩ rfl (Nat.le_of_ble_eq_true rfl) ⟨Nat.zero_le _, Nat.zero_le _⟩ ?_
  refine lv_i2l (v := ((fX0_yearDay S p1).toInt64)) hx hb dX0_mixMoment_56 (by first | rfl | decide) ?_
  refine rcSl (as := [.long (fX0_mix (fX0_mix (fX0_mix p0 ((xy S p1.toNatClampNeg).toInt64)) ((xm S p1.toNatClampNeg).toInt64)) ((xd S p1.toNatClampNeg).toInt64)), .long ((fX0_yearDay S p1).toInt64)]) (rest := []) C (c_X0_mix l G (fX0_mix (fX0_mix (fX0_mix p0 ((xy S p1.toNatClampNeg).toInt64)) ((xm S p1.toNatClampNeg).toInt64)) ((xd S p1.toNatClampNeg).toInt64)) ((fX0_yearDay S p1).toInt64)) F_X0_mix rfl bw258 bw259 hE vpn hl.1 dX0_mixMoment_57 ⟨Nat.le_of_ble_eq_true rfl, Nat.le_of_ble_eq_true rfl⟩ rfl (Nat.le_of_ble_eq_true rfl) ⟨Nat.zero_le _, Nat.zero_le _⟩ ?_
  refine lv_lstore (lv' := [(6, .long (fX0_mix (fX0_mix (fX0_mix (fX0_mix p0 ((xy S p1.toNatClampNeg).toInt64)) ((xm S p1.toNatClampNeg).toInt64)) ((xd S p1.toNatClampNeg).toInt64)) ((fX0_yearDay S p1).toInt64))), (4, .long (xN S p1.toNatClampNeg)), (0, .ref (a 0)), (1, .long p0), (3, .int p1)]) hx hb dX0_mixMoment_60 hl (Nat.le_of_ble_eq_true rfl) rfl (fun ls hl => ?_)
  refine lv_lload hx hb dX0_mixMoment_62 (lv_at hl 0 rfl) ?_
  refine lv_aload_n hx hb dX0_mixMoment_64 rfl (lv_at hl 2 rfl) ?_
  refine va_get (D := gD G) (cl := vwCl) (tys := gT G) (ci := 2) (v := .ref (a 4)) (C := RX0) (T := TX0) (N := 12) hx hb hw inB_X0 hown hE.K hP 0 rfl rfl 3 (by decide) (hw _ bw97) (fun _ h9 => h9) rfl dX0_mixMoment_65 ?_
  refine lv_iload_n hx hb dX0_mixMoment_68 rfl (lv_at hl 4 rfl) ?_
  refine va_lald (tys := gT G) hx hb hE.K hP 4 1 rfl rfl h1 dX0_mixMoment_69 ?_
  refine rcSi (as := [.long (xD S p1.toNatClampNeg)]) (rest := [.long (fX0_mix (fX0_mix (fX0_mix (fX0_mix p0 ((xy S p1.toNatClampNeg).toInt64)) ((xm S p1.toNatClampNeg).toInt64)) ((xd S p1.toNatClampNeg).toInt64)) ((fX0_yearDay S p1).toInt64))]) C (c_X0_weekday l G (xD S p1.toNatClampNeg)) F_X0_weekday rfl bw262 bw263 hE vpn hl.1 dX0_mixMoment_70 ⟨Nat.le_of_ble_eq_true rfl, Nat.le_of_ble_eq_true rfl⟩ rfl (Nat.le_of_ble_eq_true rfl) ⟨Nat.zero_le _, Nat.zero_le _⟩ ?_
  refine lv_i2l (v := ((fX0_weekday (xD S p1.toNatClampNeg)).toInt64)) hx hb dX0_mixMoment_73 (by first | rfl | decide) ?_
  refine rcSl (as := [.long (fX0_mix (fX0_mix (fX0_mix (fX0_mix p0 ((xy S p1.toNatClampNeg).toInt64)) ((xm S p1.toNatClampNeg).toInt64)) ((xd S p1.toNatClampNeg).toInt64)) ((fX0_yearDay S p1).toInt64)), .long ((fX0_weekday (xD S p1.toNatClampNeg)).toInt64)]) (rest := []) C (c_X0_mix l G (fX0_mix (fX0_mix (fX0_mix (fX0_mix p0 ((xy S p1.toNatClampNeg).toInt64)) ((xm S p1.toNatClampNeg).toInt64)) ((xd S p1.toNatClampNeg).toInt64)) ((fX0_yearDay S p1).toInt64)) ((fX0_weekday (xD S p1.toNatClampNeg)).toInt64)) F_X0_mix rfl bw258 bw259 hE vpn hl.1 dX0_mixMoment_74 ⟨Nat.le_of_ble_eq_true rfl, Nat.le_of_ble_eq_true rfl⟩ rfl (Nat.le_of_ble_eq_true rfl) ⟨Nat.zero_le _, Nat.zero_le _⟩ ?_
  refine lv_lstore (lv' := [(6, .long (fX0_mix (fX0_mix (fX0_mix (fX0_mix (fX0_mix p0 ((xy S p1.toNatClampNeg).toInt64)) ((xm S p1.toNatClampNeg).toInt64)) ((xd S p1.toNatClampNeg).toInt64)) ((fX0_yearDay S p1).toInt64)) ((fX0_weekday (xD S p1.toNatClampNeg)).toInt64))), (4, .long (xN S p1.toNatClampNeg)), (0, .ref (a 0)), (1, .long p0), (3, .int p1)]) hx hb dX0_mixMoment_77 hl (Nat.le_of_ble_eq_true rfl) rfl (fun ls hl => ?_)
  refine lv_lload hx hb dX0_mixMoment_79 (lv_at hl 0 rfl) ?_
  refine lv_lload hx hb dX0_mixMoment_81 (lv_at hl 1 rfl) ?_
  refine rcSi (as := [.long (xN S p1.toNatClampNeg)]) (rest := [.long (fX0_mix (fX0_mix (fX0_mix (fX0_mix (fX0_mix p0 ((xy S p1.toNatClampNeg).toInt64)) ((xm S p1.toNatClampNeg).toInt64)) ((xd S p1.toNatClampNeg).toInt64)) ((fX0_yearDay S p1).toInt64)) ((fX0_weekday (xD S p1.toNatClampNeg)).toInt64))]) C (c_X0_hourOf l G (xN S p1.toNatClampNeg)) F_X0_hourOf rfl bw149 bw150 hE vpn hl.1 dX0_mixMoment_83 ⟨Nat.le_of_ble_eq_true rfl, Nat.le_of_ble_eq_true rfl⟩ rfl (Nat.le_of_ble_eq_true rfl) ⟨Nat.zero_le _, Nat.zero_le _⟩ ?_
  refine lv_i2l (v := ((fX0_hourOf (xN S p1.toNatClampNeg)).toInt64)) hx hb dX0_mixMoment_86 (by first | rfl | decide) ?_
  refine rcSl (as := [.long (fX0_mix (fX0_mix (fX0_mix (fX0_mix (fX0_mix p0 ((xy S p1.toNatClampNeg).toInt64)) ((xm S p1.toNatClampNeg).toInt64)) ((xd S p1.toNatClampNeg).toInt64)) ((fX0_yearDay S p1).toInt64)) ((fX0_weekday (xD S p1.toNatClampNeg)).toInt64)), .long ((fX0_hourOf (xN S p1.toNatClampNeg)).toInt64)]) (rest := []) C (c_X0_mix l G (fX0_mix (fX0_mix (fX0_mix (fX0_mix (fX0_mix p0 ((xy S p1.toNatClampNeg).toInt64)) ((xm S p1.toNatClampNeg).toInt64)) ((xd S p1.toNatClampNeg).toInt64)) ((fX0_yearDay S p1).toInt64)) ((fX0_weekday (xD S p1.toNatClampNeg)).toInt64)) ((fX0_hourOf (xN S p1.toNatClampNeg)).toInt64)) F_X0_mix rfl bw258 bw259 hE vpn hl.1 dX0_mixMoment_87 ⟨Nat.le_of_ble_eq_true rfl, Nat.le_of_ble_eq_true rfl⟩ rfl (Nat.le_of_ble_eq_true rfl) ⟨Nat.zero_le _, Nat.zero_le _⟩ ?_
  refine lv_lstore (lv' := [(6, .long (fX0_mix (fX0_mix (fX0_mix (fX0_mix (fX0_mix (fX0_mix p0 ((xy S p1.toNatClampNeg).toInt64)) ((xm S p1.toNatClampNeg).toInt64)) ((xd S p1.toNatClampNeg).toInt64)) ((fX0_yearDay S p1).toInt64)) ((fX0_weekday (xD S p1.toNatClampNeg)).toInt64)) ((fX0_hourOf (xN S p1.toNatClampNeg)).toInt64))), (4, .long (xN S p1.toNatClampNeg)), (0, .ref (a 0)), (1, .long p0), (3, .int p1)]) hx hb dX0_mixMoment_90 hl (Nat.le_of_ble_eq_true rfl) rfl (fun ls hl => ?_)
  refine lv_lload hx hb dX0_mixMoment_92 (lv_at hl 0 rfl) ?_
  refine lv_lload hx hb dX0_mixMoment_94 (lv_at hl 1 rfl) ?_
  refine rcSi (as := [.long (xN S p1.toNatClampNeg)]) (rest := [.long (fX0_mix (fX0_mix (fX0_mix (fX0_mix (fX0_mix (fX0_mix p0 ((xy S p1.toNatClampNeg).toInt64)) ((xm S p1.toNatClampNeg).toInt64)) ((xd S p1.toNatClampNeg).toInt64)) ((fX0_yearDay S p1).toInt64)) ((fX0_weekday (xD S p1.toNatClampNeg)).toInt64)) ((fX0_hourOf (xN S p1.toNatClampNeg)).toInt64))]) C (c_X0_minuteOf l G (xN S p1.toNatClampNeg)) F_X0_minuteOf rfl bw153 bw154 hE vpn hl.1 dX0_mixMoment_96 ⟨Nat.le_of_ble_eq_true rfl, Nat.le_of_ble_eq_true rfl⟩ rfl (Nat.le_of_ble_eq_true rfl) ⟨Nat.zero_le _, Nat.zero_le _⟩ ?_
  refine lv_i2l (v := ((fX0_minuteOf (xN S p1.toNatClampNeg)).toInt64)) hx hb dX0_mixMoment_99 (by first | rfl | decide) ?_
  refine rcSl (as := [.long (fX0_mix (fX0_mix (fX0_mix (fX0_mix (fX0_mix (fX0_mix p0 ((xy S p1.toNatClampNeg).toInt64)) ((xm S p1.toNatClampNeg).toInt64)) ((xd S p1.toNatClampNeg).toInt64)) ((fX0_yearDay S p1).toInt64)) ((fX0_weekday (xD S p1.toNatClampNeg)).toInt64)) ((fX0_hourOf (xN S p1.toNatClampNeg)).toInt64)), .long ((fX0_minuteOf (xN S p1.toNatClampNeg)).toInt64)]) (rest := []) C (c_X0_mix l G (fX0_mix (fX0_mix (fX0_mix (fX0_mix (fX0_mix (fX0_mix p0 ((xy S p1.toNatClampNeg).toInt64)) ((xm S p1.toNatClampNeg).toInt64)) ((xd S p1.toNatClampNeg).toInt64)) ((fX0_yearDay S p1).toInt64)) ((fX0_weekday (xD S p1.toNatClampNeg)).toInt64)) ((fX0_hourOf (xN S p1.toNatClampNeg)).toInt64)) ((fX0_minuteOf (xN S p1.toNatClampNeg)).toInt64)) F_X0_mix rfl bw258 bw259 hE vpn hl.1 dX0_mixMoment_100 ⟨Nat.le_of_ble_eq_true rfl, Nat.le_of_ble_eq_true rfl⟩ rfl (Nat.le_of_ble_eq_true rfl) ⟨Nat.zero_le _, Nat.zero_le _⟩ ?_
  refine lv_lstore (lv' := [(6, .long (fX0_mix (fX0_mix (fX0_mix (fX0_mix (fX0_mix (fX0_mix (fX0_mix p0 ((xy S p1.toNatClampNeg).toInt64)) ((xm S p1.toNatClampNeg).toInt64)) ((xd S p1.toNatClampNeg).toInt64)) ((fX0_yearDay S p1).toInt64)) ((fX0_weekday (xD S p1.toNatClampNeg)).toInt64)) ((fX0_hourOf (xN S p1.toNatClampNeg)).toInt64)) ((fX0_minuteOf (xN S p1.toNatClampNeg)).toInt64))), (4, .long (xN S p1.toNatClampNeg)), (0, .ref (a 0)), (1, .long p0), (3, .int p1)]) hx hb dX0_mixMoment_103 hl (Nat.le_of_ble_eq_true rfl) rfl (fun ls hl => ?_)
  refine lv_lload hx hb dX0_mixMoment_105 (lv_at hl 0 rfl) ?_
  refine lv_lload hx hb dX0_mixMoment_107 (lv_at hl 1 rfl) ?_
  refine rcSi (as := [.long (xN S p1.toNatClampNeg)]) (rest := [.long (fX0_mix (fX0_mix (fX0_mix (fX0_mix (fX0_mix (fX0_mix (fX0_mix p0 ((xy S p1.toNatClampNeg).toInt64)) ((xm S p1.toNatClampNeg).toInt64)) ((xd S p1.toNatClampNeg).toInt64)) ((fX0_yearDay S p1).toInt64)) ((fX0_weekday (xD S p1.toNatClampNeg)).toInt64)) ((fX0_hourOf (xN S p1.toNatClampNeg)).toInt64)) ((fX0_minuteOf (xN S p1.toNatClampNeg)).toInt64))]) C (c_X0_secondOf l G (xN S p1.toNatClampNeg)) F_X0_secondOf rfl bw157 bw158 hE vpn hl.1 dX0_mixMoment_109 ⟨Nat.le_of_ble_eq_true rfl, Nat.le_of_ble_eq_true rfl⟩ rfl (Nat.le_of_ble_eq_true rfl) ⟨Nat.zero_le _, Nat.zero_le _⟩ ?_
  refine lv_i2l (v := ((fX0_secondOf (xN S p1.toNatClampNeg)).toInt64)) hx hb dX0_mixMoment_112 (by first | rfl | decide) ?_
  refine rcSl (as := [.long (fX0_mix (fX0_mix (fX0_mix (fX0_mix (fX0_mix (fX0_mix (fX0_mix p0 ((xy S p1.toNatClampNeg).toInt64)) ((xm S p1.toNatClampNeg).toInt64)) ((xd S p1.toNatClampNeg).toInt64)) ((fX0_yearDay S p1).toInt64)) ((fX0_weekday (xD S p1.toNatClampNeg)).toInt64)) ((fX0_hourOf (xN S p1.toNatClampNeg)).toInt64)) ((fX0_minuteOf (xN S p1.toNatClampNeg)).toInt64)), .long ((fX0_secondOf (xN S p1.toNatClampNeg)).toInt64)]) (rest := []) C (c_X0_mix l G (fX0_mix (fX0_mix (fX0_mix (fX0_mix (fX0_mix (fX0_mix (fX0_mix p0 ((xy S p1.toNatClampNeg).toInt64)) ((xm S p1.toNatClampNeg).toInt64)) ((xd S p1.toNatClampNeg).toInt64)) ((fX0_yearDay S p1).toInt64)) ((fX0_weekday (xD S p1.toNatClampNeg)).toInt64)) ((fX0_hourOf (xN S p1.toNatClampNeg)).toInt64)) ((fX0_minuteOf (xN S p1.toNatClampNeg)).toInt64)) ((fX0_secondOf (xN S p1.toNatClampNeg)).toInt64)) F_X0_mix rfl bw258 bw259 hE vpn hl.1 dX0_mixMoment_113 ⟨Nat.le_of_ble_eq_true rfl, Nat.le_of_ble_eq_true rfl⟩ rfl (Nat.le_of_ble_eq_true rfl) ⟨Nat.zero_le _, Nat.zero_le _⟩ ?_
  refine lv_lstore (lv' := [(6, .long (fX0_mix (fX0_mix (fX0_mix (fX0_mix (fX0_mix (fX0_mix (fX0_mix (fX0_mix p0 ((xy S p1.toNatClampNeg).toInt64)) ((xm S p1.toNatClampNeg).toInt64)) ((xd S p1.toNatClampNeg).toInt64)) ((fX0_yearDay S p1).toInt64)) ((fX0_weekday (xD S p1.toNatClampNeg)).toInt64)) ((fX0_hourOf (xN S p1.toNatClampNeg)).toInt64)) ((fX0_minuteOf (xN S p1.toNatClampNeg)).toInt64)) ((fX0_secondOf (xN S p1.toNatClampNeg)).toInt64))), (4, .long (xN S p1.toNatClampNeg)), (0, .ref (a 0)), (1, .long p0), (3, .int p1)]) hx hb dX0_mixMoment_116 hl (Nat.le_of_ble_eq_true rfl) rfl (fun ls hl => ?_)
  refine lv_lload hx hb dX0_mixMoment_118 (lv_at hl 0 rfl) ?_
  refine lv_lload hx hb dX0_mixMoment_120 (lv_at hl 1 rfl) ?_
  refine rcSi (as := [.long (xN S p1.toNatClampNeg)]) (rest := [.long (fX0_mix (fX0_mix (fX0_mix (fX0_mix (fX0_mix (fX0_mix (fX0_mix (fX0_mix p0 ((xy S p1.toNatClampNeg).toInt64)) ((xm S p1.toNatClampNeg).toInt64)) ((xd S p1.toNatClampNeg).toInt64)) ((fX0_yearDay S p1).toInt64)) ((fX0_weekday (xD S p1.toNatClampNeg)).toInt64)) ((fX0_hourOf (xN S p1.toNatClampNeg)).toInt64)) ((fX0_minuteOf (xN S p1.toNatClampNeg)).toInt64)) ((fX0_secondOf (xN S p1.toNatClampNeg)).toInt64))]) C (c_X0_nanoOfSecond l G (xN S p1.toNatClampNeg)) F_X0_nanoOfSecond rfl bw161 bw162 hE vpn hl.1 dX0_mixMoment_122 ⟨Nat.le_of_ble_eq_true rfl, Nat.le_of_ble_eq_true rfl⟩ rfl (Nat.le_of_ble_eq_true rfl) ⟨Nat.zero_le _, Nat.zero_le _⟩ ?_
  refine lv_i2l (v := ((fX0_nanoOfSecond (xN S p1.toNatClampNeg)).toInt64)) hx hb dX0_mixMoment_125 (by first | rfl | decide) ?_
  refine rcSl (as := [.long (fX0_mix (fX0_mix (fX0_mix (fX0_mix (fX0_mix (fX0_mix (fX0_mix (fX0_mix p0 ((xy S p1.toNatClampNeg).toInt64)) ((xm S p1.toNatClampNeg).toInt64)) ((xd S p1.toNatClampNeg).toInt64)) ((fX0_yearDay S p1).toInt64)) ((fX0_weekday (xD S p1.toNatClampNeg)).toInt64)) ((fX0_hourOf (xN S p1.toNatClampNeg)).toInt64)) ((fX0_minuteOf (xN S p1.toNatClampNeg)).toInt64)) ((fX0_secondOf (xN S p1.toNatClampNeg)).toInt64)), .long ((fX0_nanoOfSecond (xN S p1.toNatClampNeg)).toInt64)]) (rest := []) C (c_X0_mix l G (fX0_mix (fX0_mix (fX0_mix (fX0_mix (fX0_mix (fX0_mix (fX0_mix (fX0_mix p0 ((xy S p1.toNatClampNeg).toInt64)) ((xm S p1.toNatClampNeg).toInt64)) ((xd S p1.toNatClampNeg).toInt64)) ((fX0_yearDay S p1).toInt64)) ((fX0_weekday (xD S p1.toNatClampNeg)).toInt64)) ((fX0_hourOf (xN S p1.toNatClampNeg)).toInt64)) ((fX0_minuteOf (xN S p1.toNatClampNeg)).toInt64)) ((fX0_secondOf (xN S p1.toNatClampNeg)).toInt64)) ((fX0_nanoOfSecond (xN S p1.toNatClampNeg)).toInt64)) F_X0_mix rfl bw258 bw259 hE vpn hl.1 dX0_mixMoment_126 ⟨Nat.le_of_ble_eq_true rfl, Nat.le_of_ble_eq_true rfl⟩ rfl (Nat.le_of_ble_eq_true rfl) ⟨Nat.zero_le _, Nat.zero_le _⟩ ?_
  refine lv_lstore (lv' := [(6, .long (fX0_mix (fX0_mix (fX0_mix (fX0_mix (fX0_mix (fX0_mix (fX0_mix (fX0_mix (fX0_mix p0 ((xy S p1.toNatClampNeg).toInt64)) ((xm S p1.toNatClampNeg).toInt64)) ((xd S p1.toNatClampNeg).toInt64)) ((fX0_yearDay S p1).toInt64)) ((fX0_weekday (xD S p1.toNatClampNeg)).toInt64)) ((fX0_hourOf (xN S p1.toNatClampNeg)).toInt64)) ((fX0_minuteOf (xN S p1.toNatClampNeg)).toInt64)) ((fX0_secondOf (xN S p1.toNatClampNeg)).toInt64)) ((fX0_nanoOfSecond (xN S p1.toNatClampNeg)).toInt64))), (4, .long (xN S p1.toNatClampNeg)), (0, .ref (a 0)), (1, .long p0), (3, .int p1)]) hx hb dX0_mixMoment_129 hl (Nat.le_of_ble_eq_true rfl) rfl (fun ls hl => ?_)
  refine lv_lload hx hb dX0_mixMoment_131 (lv_at hl 0 rfl) ?_
  refine lv_aload_n hx hb dX0_mixMoment_133 rfl (lv_at hl 2 rfl) ?_
  refine va_get (D := gD G) (cl := vwCl) (tys := gT G) (ci := 2) (v := .ref (a 4)) (C := RX0) (T := TX0) (N := 12) hx hb hw inB_X0 hown hE.K hP 0 rfl rfl 3 (by decide) (hw _ bw97) (fun _ h9 => h9) rfl dX0_mixMoment_134 ?_
  refine lv_iload_n hx hb dX0_mixMoment_137 rfl (lv_at hl 4 rfl) ?_
  refine va_lald (tys := gT G) hx hb hE.K hP 4 1 rfl rfl h1 dX0_mixMoment_138 ?_
  refine rcSl (as := [.long (fX0_mix (fX0_mix (fX0_mix (fX0_mix (fX0_mix (fX0_mix (fX0_mix (fX0_mix (fX0_mix p0 ((xy S p1.toNatClampNeg).toInt64)) ((xm S p1.toNatClampNeg).toInt64)) ((xd S p1.toNatClampNeg).toInt64)) ((fX0_yearDay S p1).toInt64)) ((fX0_weekday (xD S p1.toNatClampNeg)).toInt64)) ((fX0_hourOf (xN S p1.toNatClampNeg)).toInt64)) ((fX0_minuteOf (xN S p1.toNatClampNeg)).toInt64)) ((fX0_secondOf (xN S p1.toNatClampNeg)).toInt64)) ((fX0_nanoOfSecond (xN S p1.toNatClampNeg)).toInt64)), .long (xD S p1.toNatClampNeg)]) (rest := []) C (c_X0_mix l G (fX0_mix (fX0_mix (fX0_mix (fX0_mix (fX0_mix (fX0_mix (fX0_mix (fX0_mix (fX0_mix p0 ((xy S p1.toNatClampNeg).toInt64)) ((xm S p1.toNatClampNeg).toInt64)) ((xd S p1.toNatClampNeg).toInt64)) ((fX0_yearDay S p1).toInt64)) ((fX0_weekday (xD S p1.toNatClampNeg)).toInt64)) ((fX0_hourOf (xN S p1.toNatClampNeg)).toInt64)) ((fX0_minuteOf (xN S p1.toNatClampNeg)).toInt64)) ((fX0_secondOf (xN S p1.toNatClampNeg)).toInt64)) ((fX0_nanoOfSecond (xN S p1.toNatClampNeg)).toInt64)) (xD S p1.toNatClampNeg)) F_X0_mix rfl bw258 bw259 hE vpn hl.1 dX0_mixMoment_139 ⟨Nat.le_of_ble_eq_true rfl, Nat.le_of_ble_eq_true rfl⟩ rfl (Nat.le_of_ble_eq_true rfl) ⟨Nat.zero_le _, Nat.zero_le _⟩ ?_
  exact re_l hx hb hr hk dX0_mixMoment_142 (el rfl)

set_option maxRecDepth 100000 in
set_option maxHeartbeats 4000000 in
theorem c_X0_isItsParts (l : Launch) (G : GT) (a : Nat → Nat) (S : SX) (p0 : Int32) (h0 : vp_in p0 6) : RO l G yX0_isItsParts cX0_isItsParts 6 (some .boolean) 4 [.ref (a 0), .int p0] (wX G a S) (some (.int (fX0_isItsParts S p0))) := by
  refine RO.ofW (own := RX0) rfl (plainFor_of_name pnN_RX0) (Nat.le_of_ble_eq_true rfl) ?_
  intro p e s m below meth c C hr hk hE hP ls hl
  have hx := C.1
  have hb := C.2.1
  have hown := C.2.2.2.1
  have hw := C.2.2.2.2
  have hl : lv_has ls 6 [(0, .ref (a 0)), (1, .int p0)] := hl
  refine lv_aload_n hx hb dX0_isItsParts_0 rfl (lv_at hl 0 rfl) ?_
  refine va_get (D := gD G) (cl := vwCl) (tys := gT G) (ci := 2) (v := .ref (a 5)) (C := RX0) (T := TX0) (N := 12) hx hb hw inB_X0 hown hE.K hP 0 rfl rfl 4 (by decide) (hw _ bw98) (fun _ h9 => h9) rfl dX0_isItsParts_1 ?_
  refine lv_iload_n hx hb dX0_isItsParts_4 rfl (lv_at hl 1 rfl) ?_
  refine va_lald (tys := gT G) hx hb hE.K hP 5 1 rfl rfl h0 dX0_isItsParts_5 ?_
  refine lv_lstore_n (lv' := [(2, .long (xN S p0.toNatClampNeg)), (0, .ref (a 0)), (1, .int p0)]) hx hb dX0_isItsParts_6 rfl hl (Nat.le_of_ble_eq_true rfl) rfl (fun ls hl => ?_)
  refine lv_lload_n hx hb dX0_isItsParts_7 rfl (lv_at hl 0 rfl) ?_
  refine rcSi (as := [.long (xN S p0.toNatClampNeg)]) (rest := []) C (c_X0_hourOf l G (xN S p0.toNatClampNeg)) F_X0_hourOf rfl bw149 bw150 hE vpn hl.1 dX0_isItsParts_8 ⟨Nat.le_of_ble_eq_true rfl, Nat.le_of_ble_eq_true rfl⟩ rfl (Nat.le_of_ble_eq_true rfl) ⟨Nat.zero_le _, Nat.zero_le _⟩ ?_
  refine lv_lload_n hx hb dX0_isItsParts_11 rfl (lv_at hl 0 rfl) ?_
  refine rcSi (as := [.long (xN S p0.toNatClampNeg)]) (rest := [.int (fX0_hourOf (xN S p0.toNatClampNeg))]) C (c_X0_minuteOf l G (xN S p0.toNatClampNeg)) F_X0_minuteOf rfl bw153 bw154 hE vpn hl.1 dX0_isItsParts_12 ⟨Nat.le_of_ble_eq_true rfl, Nat.le_of_ble_eq_true rfl⟩ rfl (Nat.le_of_ble_eq_true rfl) ⟨Nat.zero_le _, Nat.zero_le _⟩ ?_
  refine lv_lload_n hx hb dX0_isItsParts_15 rfl (lv_at hl 0 rfl) ?_
  refine rcSi (as := [.long (xN S p0.toNatClampNeg)]) (rest := [.int (fX0_minuteOf (xN S p0.toNatClampNeg)), .int (fX0_hourOf (xN S p0.toNatClampNeg))]) C (c_X0_secondOf l G (xN S p0.toNatClampNeg)) F_X0_secondOf rfl bw157 bw158 hE vpn hl.1 dX0_isItsParts_16 ⟨Nat.le_of_ble_eq_true rfl, Nat.le_of_ble_eq_true rfl⟩ rfl (Nat.le_of_ble_eq_true rfl) ⟨Nat.zero_le _, Nat.zero_le _⟩ ?_
  refine lv_lload_n hx hb dX0_isItsParts_19 rfl (lv_at hl 0 rfl) ?_
  refine rcSi (as := [.long (xN S p0.toNatClampNeg)]) (rest := [.int (fX0_secondOf (xN S p0.toNatClampNeg)), .int (fX0_minuteOf (xN S p0.toNatClampNeg)), .int (fX0_hourOf (xN S p0.toNatClampNeg))]) C (c_X0_nanoOfSecond l G (xN S p0.toNatClampNeg)) F_X0_nanoOfSecond rfl bw161 bw162 hE vpn hl.1 dX0_isItsParts_20 ⟨Nat.le_of_ble_eq_true rfl, Nat.le_of_ble_eq_true rfl⟩ rfl (Nat.le_of_ble_eq_true rfl) ⟨Nat.zero_le _, Nat.zero_le _⟩ ?_
  refine rcSl (as := [.int (fX0_hourOf (xN S p0.toNatClampNeg)), .int (fX0_minuteOf (xN S p0.toNatClampNeg)), .int (fX0_secondOf (xN S p0.toNatClampNeg)), .int (fX0_nanoOfSecond (xN S p0.toNatClampNeg))]) (rest := []) C (c_X0_timeOf l G (fX0_hourOf (xN S p0.toNatClampNeg)) (fX0_minuteOf (xN S p0.toNatClampNeg)) (fX0_secondOf (xN S p0.toNatClampNeg)) (fX0_nanoOfSecond (xN S p0.toNatClampNeg))) F_X0_timeOf rfl bw164 bw165 hE vpn hl.1 dX0_isItsParts_23 ⟨Nat.le_of_ble_eq_true rfl, Nat.le_of_ble_eq_true rfl⟩ rfl (Nat.le_of_ble_eq_true rfl) ⟨Nat.zero_le _, Nat.zero_le _⟩ ?_
  refine lv_lstore (lv' := [(4, .long (fX0_timeOf (fX0_hourOf (xN S p0.toNatClampNeg)) (fX0_minuteOf (xN S p0.toNatClampNeg)) (fX0_secondOf (xN S p0.toNatClampNeg)) (fX0_nanoOfSecond (xN S p0.toNatClampNeg)))), (2, .long (xN S p0.toNatClampNeg)), (0, .ref (a 0)), (1, .int p0)]) hx hb dX0_isItsParts_26 hl (Nat.le_of_ble_eq_true rfl) rfl (fun ls hl => ?_)
  refine lv_aload_n hx hb dX0_isItsParts_28 rfl (lv_at hl 2 rfl) ?_
  refine va_get (D := gD G) (cl := vwCl) (tys := gT G) (ci := 2) (v := .ref (a 1)) (C := RX0) (T := TX0) (N := 12) hx hb hw inB_X0 hown hE.K hP 0 rfl rfl 0 (by decide) (hw _ bw94) (fun _ h9 => h9) rfl dX0_isItsParts_29 ?_
  refine lv_iload_n hx hb dX0_isItsParts_32 rfl (lv_at hl 3 rfl) ?_
  refine va_iald (tys := gT G) hx hb hE.K hP 1 0 rfl rfl h0 dX0_isItsParts_33 ?_
  refine lv_aload_n hx hb dX0_isItsParts_34 rfl (lv_at hl 2 rfl) ?_
  refine va_get (D := gD G) (cl := vwCl) (tys := gT G) (ci := 2) (v := .ref (a 2)) (C := RX0) (T := TX0) (N := 12) hx hb hw inB_X0 hown hE.K hP 0 rfl rfl 1 (by decide) (hw _ bw95) (fun _ h9 => h9) rfl dX0_isItsParts_35 ?_
  refine lv_iload_n hx hb dX0_isItsParts_38 rfl (lv_at hl 3 rfl) ?_
  refine va_iald (tys := gT G) hx hb hE.K hP 2 0 rfl rfl h0 dX0_isItsParts_39 ?_
  refine lv_aload_n hx hb dX0_isItsParts_40 rfl (lv_at hl 2 rfl) ?_
  refine va_get (D := gD G) (cl := vwCl) (tys := gT G) (ci := 2) (v := .ref (a 3)) (C := RX0) (T := TX0) (N := 12) hx hb hw inB_X0 hown hE.K hP 0 rfl rfl 2 (by decide) (hw _ bw96) (fun _ h9 => h9) rfl dX0_isItsParts_41 ?_
  refine lv_iload_n hx hb dX0_isItsParts_44 rfl (lv_at hl 3 rfl) ?_
  refine va_iald (tys := gT G) hx hb hE.K hP 3 0 rfl rfl h0 dX0_isItsParts_45 ?_
  refine rcSl (as := [.int (xy S p0.toNatClampNeg), .int (xm S p0.toNatClampNeg), .int (xd S p0.toNatClampNeg)]) (rest := []) C (c_X0_dayOf l G (xy S p0.toNatClampNeg) (xm S p0.toNatClampNeg) (xd S p0.toNatClampNeg)) F_X0_dayOf rfl bw167 bw168 hE vpn hl.1 dX0_isItsParts_46 ⟨Nat.le_of_ble_eq_true rfl, Nat.le_of_ble_eq_true rfl⟩ rfl (Nat.le_of_ble_eq_true rfl) ⟨Nat.zero_le _, Nat.zero_le _⟩ ?_
  refine lv_aload_n hx hb dX0_isItsParts_49 rfl (lv_at hl 2 rfl) ?_
  refine va_get (D := gD G) (cl := vwCl) (tys := gT G) (ci := 2) (v := .ref (a 4)) (C := RX0) (T := TX0) (N := 12) hx hb hw inB_X0 hown hE.K hP 0 rfl rfl 3 (by decide) (hw _ bw97) (fun _ h9 => h9) rfl dX0_isItsParts_50 ?_
  refine lv_iload_n hx hb dX0_isItsParts_53 rfl (lv_at hl 3 rfl) ?_
  refine va_lald (tys := gT G) hx hb hE.K hP 4 1 rfl rfl h0 dX0_isItsParts_54 ?_
  refine W.lcmp hx hb dX0_isItsParts_55 ?_
  refine lv_if_ne (tgt := 70) hx hb dX0_isItsParts_56 (by decide) (fun c_1 => ?_) (fun c_1 => ?_)
  · refine lv_iconst (v := (0 : Int32)) hx hb dX0_isItsParts_70 qi_0 ?_
    exact re_z (ty := .boolean) hx hb hr hk (by decide) dX0_isItsParts_71 (ei (if_neg c_1))
  · refine lv_lload hx hb dX0_isItsParts_59 (lv_at hl 0 rfl) ?_
    refine lv_lload_n hx hb dX0_isItsParts_61 rfl (lv_at hl 1 rfl) ?_
    refine W.lcmp hx hb dX0_isItsParts_62 ?_
    refine lv_if_ne (tgt := 70) hx hb dX0_isItsParts_63 (by decide) (fun c_2 => ?_) (fun c_2 => ?_)
    · refine lv_iconst (v := (0 : Int32)) hx hb dX0_isItsParts_70 qi_0 ?_
      exact re_z (ty := .boolean) hx hb hr hk (by decide) dX0_isItsParts_71 (ei (Eq.trans (if_pos c_1) (if_neg c_2)))
    · refine lv_iconst (v := (1 : Int32)) hx hb dX0_isItsParts_66 qi_1 ?_
      refine lv_goto (tgt := 71) hx hb dX0_isItsParts_67 (by decide) ?_
      exact re_z (ty := .boolean) hx hb hr hk (by decide) dX0_isItsParts_71 (ei (Eq.trans (if_pos c_1) (if_pos c_2)))

set_option maxRecDepth 100000 in
set_option maxHeartbeats 4000000 in
theorem c_X0_isItsDateAndTime (l : Launch) (G : GT) (a : Nat → Nat) (S : SX) (p0 : Int32) (h0 : vp_in p0 6) : RO l G yX0_isItsDateAndTime cX0_isItsDateAndTime 6 (some .boolean) 4 [.ref (a 0), .int p0] (wX G a S) (some (.int (fX0_isItsDateAndTime S p0))) := by
  refine RO.ofW (own := RX0) rfl (plainFor_of_name pnN_RX0) (Nat.le_of_ble_eq_true rfl) ?_
  intro p e s m below meth c C hr hk hE hP ls hl
  have hx := C.1
  have hb := C.2.1
  have hown := C.2.2.2.1
  have hw := C.2.2.2.2
  have hl : lv_has ls 6 [(0, .ref (a 0)), (1, .int p0)] := hl
  refine lv_aload_n hx hb dX0_isItsDateAndTime_0 rfl (lv_at hl 0 rfl) ?_
  refine va_get (D := gD G) (cl := vwCl) (tys := gT G) (ci := 2) (v := .ref (a 5)) (C := RX0) (T := TX0) (N := 12) hx hb hw inB_X0 hown hE.K hP 0 rfl rfl 4 (by decide) (hw _ bw98) (fun _ h9 => h9) rfl dX0_isItsDateAndTime_1 ?_
  refine lv_iload_n hx hb dX0_isItsDateAndTime_4 rfl (lv_at hl 1 rfl) ?_
  refine va_lald (tys := gT G) hx hb hE.K hP 5 1 rfl rfl h0 dX0_isItsDateAndTime_5 ?_
  refine lv_lstore_n (lv' := [(2, .long (xN S p0.toNatClampNeg)), (0, .ref (a 0)), (1, .int p0)]) hx hb dX0_isItsDateAndTime_6 rfl hl (Nat.le_of_ble_eq_true rfl) rfl (fun ls hl => ?_)
  refine lv_lload_n hx hb dX0_isItsDateAndTime_7 rfl (lv_at hl 0 rfl) ?_
  refine lv_ldc2 (v := (1000000000 : Int64)) hx hb hown (hw _ bw160) dX0_isItsDateAndTime_8 ?_
  refine lv_ldiv hx hb dX0_isItsDateAndTime_11 (by decide) ?_
  refine lv_ldc2 (v := (1000000000 : Int64)) hx hb hown (hw _ bw160) dX0_isItsDateAndTime_12 ?_
  refine lv_lmul hx hb dX0_isItsDateAndTime_15 ?_
  refine lv_lload_n hx hb dX0_isItsDateAndTime_16 rfl (lv_at hl 0 rfl) ?_
  refine rcSi (as := [.long (xN S p0.toNatClampNeg)]) (rest := [.long (((xN S p0.toNatClampNeg) / (1000000000 : Int64)) * (1000000000 : Int64))]) C (c_X0_nanoOfSecond l G (xN S p0.toNatClampNeg)) F_X0_nanoOfSecond rfl bw161 bw162 hE vpn hl.1 dX0_isItsDateAndTime_17 ⟨Nat.le_of_ble_eq_true rfl, Nat.le_of_ble_eq_true rfl⟩ rfl (Nat.le_of_ble_eq_true rfl) ⟨Nat.zero_le _, Nat.zero_le _⟩ ?_
  refine lv_i2l (v := ((fX0_nanoOfSecond (xN S p0.toNatClampNeg)).toInt64)) hx hb dX0_isItsDateAndTime_20 (by first | rfl | decide) ?_
  refine lv_ladd hx hb dX0_isItsDateAndTime_21 ?_
  refine lv_lstore (lv' := [(4, .long ((((xN S p0.toNatClampNeg) / (1000000000 : Int64)) * (1000000000 : Int64)) + ((fX0_nanoOfSecond (xN S p0.toNatClampNeg)).toInt64))), (2, .long (xN S p0.toNatClampNeg)), (0, .ref (a 0)), (1, .int p0)]) hx hb dX0_isItsDateAndTime_22 hl (Nat.le_of_ble_eq_true rfl) rfl (fun ls hl => ?_)
  refine lv_aload_n hx hb dX0_isItsDateAndTime_24 rfl (lv_at hl 2 rfl) ?_
  refine va_get (D := gD G) (cl := vwCl) (tys := gT G) (ci := 2) (v := .ref (a 1)) (C := RX0) (T := TX0) (N := 12) hx hb hw inB_X0 hown hE.K hP 0 rfl rfl 0 (by decide) (hw _ bw94) (fun _ h9 => h9) rfl dX0_isItsDateAndTime_25 ?_
  refine lv_iload_n hx hb dX0_isItsDateAndTime_28 rfl (lv_at hl 3 rfl) ?_
  refine va_iald (tys := gT G) hx hb hE.K hP 1 0 rfl rfl h0 dX0_isItsDateAndTime_29 ?_
  refine rcSl (as := [.int (xy S p0.toNatClampNeg)]) (rest := []) C (c_X0_firstDayOf l G (xy S p0.toNatClampNeg)) F_X0_firstDayOf rfl bw86 bw87 hE vpn hl.1 dX0_isItsDateAndTime_30 ⟨Nat.le_of_ble_eq_true rfl, Nat.le_of_ble_eq_true rfl⟩ rfl (Nat.le_of_ble_eq_true rfl) ⟨Nat.zero_le _, Nat.zero_le _⟩ ?_
  refine lv_aload_n hx hb dX0_isItsDateAndTime_33 rfl (lv_at hl 2 rfl) ?_
  refine lv_iload_n hx hb dX0_isItsDateAndTime_34 rfl (lv_at hl 3 rfl) ?_
  refine rcVi (as := [.int p0]) (rest := [.long (fX0_firstDayOf (xy S p0.toNatClampNeg))]) (cl := RX0) C (c_X0_yearDay l G a S p0 h0) F_X0_yearDay rfl bw182 bw184 bw3 hE hP (rv2 hE.K hP (q0 := 0) rfl) hl.1 dX0_isItsDateAndTime_35 ⟨Nat.le_of_ble_eq_true rfl, Nat.le_of_ble_eq_true rfl⟩ rfl (Nat.le_of_ble_eq_true rfl) ⟨Nat.zero_le _, Nat.zero_le _⟩ ?_
  refine lv_i2l (v := ((fX0_yearDay S p0).toInt64)) hx hb dX0_isItsDateAndTime_38 (by first | rfl | decide) ?_
  refine lv_ladd hx hb dX0_isItsDateAndTime_39 ?_
  refine lv_lconst (v := (1 : Int64)) hx hb dX0_isItsDateAndTime_40 ql_1 ?_
  refine lv_lsub hx hb dX0_isItsDateAndTime_41 ?_
  refine lv_aload_n hx hb dX0_isItsDateAndTime_42 rfl (lv_at hl 2 rfl) ?_
  refine va_get (D := gD G) (cl := vwCl) (tys := gT G) (ci := 2) (v := .ref (a 4)) (C := RX0) (T := TX0) (N := 12) hx hb hw inB_X0 hown hE.K hP 0 rfl rfl 3 (by decide) (hw _ bw97) (fun _ h9 => h9) rfl dX0_isItsDateAndTime_43 ?_
  refine lv_iload_n hx hb dX0_isItsDateAndTime_46 rfl (lv_at hl 3 rfl) ?_
  refine va_lald (tys := gT G) hx hb hE.K hP 4 1 rfl rfl h0 dX0_isItsDateAndTime_47 ?_
  refine W.lcmp hx hb dX0_isItsDateAndTime_48 ?_
  refine lv_if_ne (tgt := 63) hx hb dX0_isItsDateAndTime_49 (by decide) (fun c_1 => ?_) (fun c_1 => ?_)
  · refine lv_iconst (v := (0 : Int32)) hx hb dX0_isItsDateAndTime_63 qi_0 ?_
    exact re_z (ty := .boolean) hx hb hr hk (by decide) dX0_isItsDateAndTime_64 (ei (if_neg c_1))
  · refine lv_lload hx hb dX0_isItsDateAndTime_52 (lv_at hl 0 rfl) ?_
    refine lv_lload_n hx hb dX0_isItsDateAndTime_54 rfl (lv_at hl 1 rfl) ?_
    refine W.lcmp hx hb dX0_isItsDateAndTime_55 ?_
    refine lv_if_ne (tgt := 63) hx hb dX0_isItsDateAndTime_56 (by decide) (fun c_2 => ?_) (fun c_2 => ?_)
    · refine lv_iconst (v := (0 : Int32)) hx hb dX0_isItsDateAndTime_63 qi_0 ?_
      exact re_z (ty := .boolean) hx hb hr hk (by decide) dX0_isItsDateAndTime_64 (ei (Eq.trans (if_pos c_1) (if_neg c_2)))
    · refine lv_iconst (v := (1 : Int32)) hx hb dX0_isItsDateAndTime_59 qi_1 ?_
      refine lv_goto (tgt := 64) hx hb dX0_isItsDateAndTime_60 (by decide) ?_
      exact re_z (ty := .boolean) hx hb hr hk (by decide) dX0_isItsDateAndTime_64 (ei (Eq.trans (if_pos c_1) (if_pos c_2)))

set_option maxRecDepth 100000 in
set_option maxHeartbeats 4000000 in
theorem c_X0_isLineLess (l : Launch) (G : GT) (a : Nat → Nat) (S : SX) (p0 : Int32) (p1 : Int64) (p2 : Int64) (p3 : Int64) (h0 : vp_in p0 6) : RO l G yX0_isLineLess cX0_isLineLess 10 (some .boolean) 3 [.ref (a 0), .int p0, .long p1, .long p2, .long p3] (wX G a S) (some (.int (fX0_isLineLess S p0 p1 p2 p3))) := by
  refine RO.ofW (own := RX0) rfl (plainFor_of_name pnN_RX0) (Nat.le_of_ble_eq_true rfl) ?_
  intro p e s m below meth c C hr hk hE hP ls hl
  have hx := C.1
  have hb := C.2.1
  have hown := C.2.2.2.1
  have hw := C.2.2.2.2
  have hl : lv_has ls 10 [(0, .ref (a 0)), (1, .int p0), (2, .long p1), (4, .long p2), (6, .long p3)] := hl
  refine lv_lload hx hb dX0_isLineLess_0 (lv_at hl 3 rfl) ?_
  refine lv_lload hx hb dX0_isLineLess_2 (lv_at hl 4 rfl) ?_
  refine lv_lsub hx hb dX0_isLineLess_4 ?_
  refine lv_lstore (lv' := [(8, .long (p2 - p3)), (0, .ref (a 0)), (1, .int p0), (2, .long p1), (4, .long p2), (6, .long p3)]) hx hb dX0_isLineLess_5 hl (Nat.le_of_ble_eq_true rfl) rfl (fun ls hl => ?_)
  refine lv_lload_n hx hb dX0_isLineLess_7 rfl (lv_at hl 3 rfl) ?_
  refine lv_lload hx hb dX0_isLineLess_8 (lv_at hl 0 rfl) ?_
  refine lv_ldc2 (v := (86400000000000 : Int64)) hx hb hown (hw _ bw190) dX0_isLineLess_10 ?_
  refine rcSl (as := [.long (p2 - p3), .long (86400000000000 : Int64)]) (rest := [.long p1]) C (c_J9_floorDiv_f86c9 l G (p2 - p3) (86400000000000 : Int64) (by decide)) F_J9_floorDiv_f86c9 rfl bw191 bw192 hE vpn hl.1 dX0_isLineLess_13 ⟨Nat.le_of_ble_eq_true rfl, Nat.le_of_ble_eq_true rfl⟩ rfl (Nat.le_of_ble_eq_true rfl) ⟨Nat.zero_le _, Nat.zero_le _⟩ ?_
  refine lv_ladd hx hb dX0_isLineLess_16 ?_
  refine lv_aload_n hx hb dX0_isLineLess_17 rfl (lv_at hl 1 rfl) ?_
  refine va_get (D := gD G) (cl := vwCl) (tys := gT G) (ci := 2) (v := .ref (a 4)) (C := RX0) (T := TX0) (N := 12) hx hb hw inB_X0 hown hE.K hP 0 rfl rfl 3 (by decide) (hw _ bw97) (fun _ h9 => h9) rfl dX0_isLineLess_18 ?_
  refine lv_iload_n hx hb dX0_isLineLess_21 rfl (lv_at hl 2 rfl) ?_
  refine va_lald (tys := gT G) hx hb hE.K hP 4 1 rfl rfl h0 dX0_isLineLess_22 ?_
  refine W.lcmp hx hb dX0_isLineLess_23 ?_
  refine lv_if_ne (tgt := 49) hx hb dX0_isLineLess_24 (by decide) (fun c_1 => ?_) (fun c_1 => ?_)
  · refine lv_iconst (v := (0 : Int32)) hx hb dX0_isLineLess_49 qi_0 ?_
    exact re_z (ty := .boolean) hx hb hr hk (by decide) dX0_isLineLess_50 (ei (if_neg c_1))
  · refine lv_lload hx hb dX0_isLineLess_27 (lv_at hl 0 rfl) ?_
    refine lv_ldc2 (v := (86400000000000 : Int64)) hx hb hown (hw _ bw190) dX0_isLineLess_29 ?_
    refine rcSl (as := [.long (p2 - p3), .long (86400000000000 : Int64)]) (rest := []) C (c_J9_floorMod_f86c9 l G (p2 - p3) (86400000000000 : Int64) (by decide)) F_J9_floorMod_f86c9 rfl bw195 bw196 hE vpn hl.1 dX0_isLineLess_32 ⟨Nat.le_of_ble_eq_true rfl, Nat.le_of_ble_eq_true rfl⟩ rfl (Nat.le_of_ble_eq_true rfl) ⟨Nat.zero_le _, Nat.zero_le _⟩ ?_
    refine lv_aload_n hx hb dX0_isLineLess_35 rfl (lv_at hl 1 rfl) ?_
    refine va_get (D := gD G) (cl := vwCl) (tys := gT G) (ci := 2) (v := .ref (a 5)) (C := RX0) (T := TX0) (N := 12) hx hb hw inB_X0 hown hE.K hP 0 rfl rfl 4 (by decide) (hw _ bw98) (fun _ h9 => h9) rfl dX0_isLineLess_36 ?_
    refine lv_iload_n hx hb dX0_isLineLess_39 rfl (lv_at hl 2 rfl) ?_
    refine va_lald (tys := gT G) hx hb hE.K hP 5 1 rfl rfl h0 dX0_isLineLess_40 ?_
    refine W.lcmp hx hb dX0_isLineLess_41 ?_
    refine lv_if_ne (tgt := 49) hx hb dX0_isLineLess_42 (by decide) (fun c_2 => ?_) (fun c_2 => ?_)
    · refine lv_iconst (v := (0 : Int32)) hx hb dX0_isLineLess_49 qi_0 ?_
      exact re_z (ty := .boolean) hx hb hr hk (by decide) dX0_isLineLess_50 (ei (Eq.trans (if_pos c_1) (if_neg c_2)))
    · refine lv_iconst (v := (1 : Int32)) hx hb dX0_isLineLess_45 qi_1 ?_
      refine lv_goto (tgt := 50) hx hb dX0_isLineLess_46 (by decide) ?_
      exact re_z (ty := .boolean) hx hb hr hk (by decide) dX0_isLineLess_50 (ei (Eq.trans (if_pos c_1) (if_pos c_2)))

set_option maxRecDepth 100000 in
set_option maxHeartbeats 4000000 in
theorem c_X0_isBackFromNano (l : Launch) (G : GT) (a : Nat → Nat) (S : SX) (p0 : Int32) (h0 : vp_in p0 6) : RO l G yX0_isBackFromNano cX0_isBackFromNano 6 (some .boolean) 4 [.ref (a 0), .int p0] (wX G a S) (some (.int (fX0_isBackFromNano S p0))) := by
  refine RO.ofW (own := RX0) rfl (plainFor_of_name pnN_RX0) (Nat.le_of_ble_eq_true rfl) ?_
  intro p e s m below meth c C hr hk hE hP ls hl
  have hx := C.1
  have hb := C.2.1
  have hown := C.2.2.2.1
  have hw := C.2.2.2.2
  have hl : lv_has ls 6 [(0, .ref (a 0)), (1, .int p0)] := hl
  refine lv_aload_n hx hb dX0_isBackFromNano_0 rfl (lv_at hl 0 rfl) ?_
  refine va_get (D := gD G) (cl := vwCl) (tys := gT G) (ci := 2) (v := .ref (a 5)) (C := RX0) (T := TX0) (N := 12) hx hb hw inB_X0 hown hE.K hP 0 rfl rfl 4 (by decide) (hw _ bw98) (fun _ h9 => h9) rfl dX0_isBackFromNano_1 ?_
  refine lv_iload_n hx hb dX0_isBackFromNano_4 rfl (lv_at hl 1 rfl) ?_
  refine va_lald (tys := gT G) hx hb hE.K hP 5 1 rfl rfl h0 dX0_isBackFromNano_5 ?_
  refine lv_lconst (v := (1 : Int64)) hx hb dX0_isBackFromNano_6 ql_1 ?_
  refine lv_ladd hx hb dX0_isBackFromNano_7 ?_
  refine lv_lstore_n (lv' := [(2, .long ((xN S p0.toNatClampNeg) + (1 : Int64))), (0, .ref (a 0)), (1, .int p0)]) hx hb dX0_isBackFromNano_8 rfl hl (Nat.le_of_ble_eq_true rfl) rfl (fun ls hl => ?_)
  refine lv_aload_n hx hb dX0_isBackFromNano_9 rfl (lv_at hl 1 rfl) ?_
  refine va_get (D := gD G) (cl := vwCl) (tys := gT G) (ci := 2) (v := .ref (a 4)) (C := RX0) (T := TX0) (N := 12) hx hb hw inB_X0 hown hE.K hP 0 rfl rfl 3 (by decide) (hw _ bw97) (fun _ h9 => h9) rfl dX0_isBackFromNano_10 ?_
  refine lv_iload_n hx hb dX0_isBackFromNano_13 rfl (lv_at hl 2 rfl) ?_
  refine va_lald (tys := gT G) hx hb hE.K hP 4 1 rfl rfl h0 dX0_isBackFromNano_14 ?_
  refine lv_lload_n hx hb dX0_isBackFromNano_15 rfl (lv_at hl 0 rfl) ?_
  refine lv_ldc2 (v := (86400000000000 : Int64)) hx hb hown (hw _ bw190) dX0_isBackFromNano_16 ?_
  refine rcSl (as := [.long ((xN S p0.toNatClampNeg) + (1 : Int64)), .long (86400000000000 : Int64)]) (rest := [.long (xD S p0.toNatClampNeg)]) C (c_J9_floorDiv_f86c9 l G ((xN S p0.toNatClampNeg) + (1 : Int64)) (86400000000000 : Int64) (by decide)) F_J9_floorDiv_f86c9 rfl bw191 bw192 hE vpn hl.1 dX0_isBackFromNano_19 ⟨Nat.le_of_ble_eq_true rfl, Nat.le_of_ble_eq_true rfl⟩ rfl (Nat.le_of_ble_eq_true rfl) ⟨Nat.zero_le _, Nat.zero_le _⟩ ?_
  refine lv_ladd hx hb dX0_isBackFromNano_22 ?_
  refine lv_lstore (lv' := [(4, .long ((xD S p0.toNatClampNeg) + (fJ9_floorDiv_f86c9 ((xN S p0.toNatClampNeg) + (1 : Int64)) (86400000000000 : Int64)))), (2, .long ((xN S p0.toNatClampNeg) + (1 : Int64))), (0, .ref (a 0)), (1, .int p0)]) hx hb dX0_isBackFromNano_23 hl (Nat.le_of_ble_eq_true rfl) rfl (fun ls hl => ?_)
  refine lv_lload hx hb dX0_isBackFromNano_25 (lv_at hl 0 rfl) ?_
  refine lv_ldc2 (v := (2932896 : Int64)) hx hb hown (hw _ bw194) dX0_isBackFromNano_27 ?_
  refine W.lcmp hx hb dX0_isBackFromNano_30 ?_
  refine lv_if_le (tgt := 36) hx hb dX0_isBackFromNano_31 (by decide) (fun c_1 => ?_) (fun c_1 => ?_)
  · refine lv_aload_n hx hb dX0_isBackFromNano_36 rfl (lv_at hl 2 rfl) ?_
    refine lv_iload_n hx hb dX0_isBackFromNano_37 rfl (lv_at hl 3 rfl) ?_
    refine lv_lload hx hb dX0_isBackFromNano_38 (lv_at hl 0 rfl) ?_
    refine lv_lload_n hx hb dX0_isBackFromNano_40 rfl (lv_at hl 1 rfl) ?_
    refine lv_ldc2 (v := (86400000000000 : Int64)) hx hb hown (hw _ bw190) dX0_isBackFromNano_41 ?_
    refine rcSl (as := [.long ((xN S p0.toNatClampNeg) + (1 : Int64)), .long (86400000000000 : Int64)]) (rest := [.long ((xD S p0.toNatClampNeg) + (fJ9_floorDiv_f86c9 ((xN S p0.toNatClampNeg) + (1 : Int64)) (86400000000000 : Int64))), .int p0, .ref (a 0)]) C (c_J9_floorMod_f86c9 l G ((xN S p0.toNatClampNeg) + (1 : Int64)) (86400000000000 : Int64) (by decide)) F_J9_floorMod_f86c9 rfl bw195 bw196 hE vpn hl.1 dX0_isBackFromNano_44 ⟨Nat.le_of_ble_eq_true rfl, Nat.le_of_ble_eq_true rfl⟩ rfl (Nat.le_of_ble_eq_true rfl) ⟨Nat.zero_le _, Nat.zero_le _⟩ ?_
    refine lv_lconst (v := (1 : Int64)) hx hb dX0_isBackFromNano_47 ql_1 ?_
    refine rcVi (as := [.int p0, .long ((xD S p0.toNatClampNeg) + (fJ9_floorDiv_f86c9 ((xN S p0.toNatClampNeg) + (1 : Int64)) (86400000000000 : Int64))), .long (fJ9_floorMod_f86c9 ((xN S p0.toNatClampNeg) + (1 : Int64)) (86400000000000 : Int64)), .long (1 : Int64)]) (rest := []) (cl := RX0) C (c_X0_isLineLess l G a S p0 ((xD S p0.toNatClampNeg) + (fJ9_floorDiv_f86c9 ((xN S p0.toNatClampNeg) + (1 : Int64)) (86400000000000 : Int64))) (fJ9_floorMod_f86c9 ((xN S p0.toNatClampNeg) + (1 : Int64)) (86400000000000 : Int64)) (1 : Int64) h0) F_X0_isLineLess rfl bw198 bw200 bw5 hE hP (rv2 hE.K hP (q0 := 0) rfl) hl.1 dX0_isBackFromNano_48 ⟨Nat.le_of_ble_eq_true rfl, Nat.le_of_ble_eq_true rfl⟩ rfl (Nat.le_of_ble_eq_true rfl) ⟨Nat.zero_le _, Nat.zero_le _⟩ ?_
    exact re_z (ty := .boolean) hx hb hr hk (bX0_isLineLess S p0 ((xD S p0.toNatClampNeg) + (fJ9_floorDiv_f86c9 ((xN S p0.toNatClampNeg) + (1 : Int64)) (86400000000000 : Int64))) (fJ9_floorMod_f86c9 ((xN S p0.toNatClampNeg) + (1 : Int64)) (86400000000000 : Int64)) (1 : Int64)) dX0_isBackFromNano_51 (ei (if_pos c_1))
  · refine lv_iconst (v := (1 : Int32)) hx hb dX0_isBackFromNano_34 qi_1 ?_
    exact re_z (ty := .boolean) hx hb hr hk (by decide) dX0_isBackFromNano_35 (ei (if_neg c_1))

set_option maxRecDepth 100000 in
set_option maxHeartbeats 4000000 in
theorem c_X0_isBackFromDay (l : Launch) (G : GT) (a : Nat → Nat) (S : SX) (p0 : Int32) (h0 : vp_in p0 6) : RO l G yX0_isBackFromDay cX0_isBackFromDay 2 (some .boolean) 4 [.ref (a 0), .int p0] (wX G a S) (some (.int (fX0_isBackFromDay S p0))) := by
  refine RO.ofW (own := RX0) rfl (plainFor_of_name pnN_RX0) (Nat.le_of_ble_eq_true rfl) ?_
  intro p e s m below meth c C hr hk hE hP ls hl
  have hx := C.1
  have hb := C.2.1
  have hown := C.2.2.2.1
  have hw := C.2.2.2.2
  have hl : lv_has ls 2 [(0, .ref (a 0)), (1, .int p0)] := hl
  refine lv_aload_n hx hb dX0_isBackFromDay_0 rfl (lv_at hl 0 rfl) ?_
  refine va_get (D := gD G) (cl := vwCl) (tys := gT G) (ci := 2) (v := .ref (a 4)) (C := RX0) (T := TX0) (N := 12) hx hb hw inB_X0 hown hE.K hP 0 rfl rfl 3 (by decide) (hw _ bw97) (fun _ h9 => h9) rfl dX0_isBackFromDay_1 ?_
  refine lv_iload_n hx hb dX0_isBackFromDay_4 rfl (lv_at hl 1 rfl) ?_
  refine va_lald (tys := gT G) hx hb hE.K hP 4 1 rfl rfl h0 dX0_isBackFromDay_5 ?_
  refine lv_ldc2 (v := (2932896 : Int64)) hx hb hown (hw _ bw194) dX0_isBackFromDay_6 ?_
  refine W.lcmp hx hb dX0_isBackFromDay_9 ?_
  refine lv_if_lt (tgt := 15) hx hb dX0_isBackFromDay_10 (by decide) (fun c_1 => ?_) (fun c_1 => ?_)
  · refine lv_aload_n hx hb dX0_isBackFromDay_15 rfl (lv_at hl 0 rfl) ?_
    refine lv_iload_n hx hb dX0_isBackFromDay_16 rfl (lv_at hl 1 rfl) ?_
    refine lv_aload_n hx hb dX0_isBackFromDay_17 rfl (lv_at hl 0 rfl) ?_
    refine va_get (D := gD G) (cl := vwCl) (tys := gT G) (ci := 2) (v := .ref (a 4)) (C := RX0) (T := TX0) (N := 12) hx hb hw inB_X0 hown hE.K hP 0 rfl rfl 3 (by decide) (hw _ bw97) (fun _ h9 => h9) rfl dX0_isBackFromDay_18 ?_
    refine lv_iload_n hx hb dX0_isBackFromDay_21 rfl (lv_at hl 1 rfl) ?_
    refine va_lald (tys := gT G) hx hb hE.K hP 4 1 rfl rfl h0 dX0_isBackFromDay_22 ?_
    refine lv_lconst (v := (1 : Int64)) hx hb dX0_isBackFromDay_23 ql_1 ?_
    refine lv_ladd hx hb dX0_isBackFromDay_24 ?_
    refine lv_aload_n hx hb dX0_isBackFromDay_25 rfl (lv_at hl 0 rfl) ?_
    refine va_get (D := gD G) (cl := vwCl) (tys := gT G) (ci := 2) (v := .ref (a 5)) (C := RX0) (T := TX0) (N := 12) hx hb hw inB_X0 hown hE.K hP 0 rfl rfl 4 (by decide) (hw _ bw98) (fun _ h9 => h9) rfl dX0_isBackFromDay_26 ?_
    refine lv_iload_n hx hb dX0_isBackFromDay_29 rfl (lv_at hl 1 rfl) ?_
    refine va_lald (tys := gT G) hx hb hE.K hP 5 1 rfl rfl h0 dX0_isBackFromDay_30 ?_
    refine lv_ldc2 (v := (86400000000000 : Int64)) hx hb hown (hw _ bw190) dX0_isBackFromDay_31 ?_
    refine rcVi (as := [.int p0, .long ((xD S p0.toNatClampNeg) + (1 : Int64)), .long (xN S p0.toNatClampNeg), .long (86400000000000 : Int64)]) (rest := []) (cl := RX0) C (c_X0_isLineLess l G a S p0 ((xD S p0.toNatClampNeg) + (1 : Int64)) (xN S p0.toNatClampNeg) (86400000000000 : Int64) h0) F_X0_isLineLess rfl bw198 bw200 bw5 hE hP (rv2 hE.K hP (q0 := 0) rfl) hl.1 dX0_isBackFromDay_34 ⟨Nat.le_of_ble_eq_true rfl, Nat.le_of_ble_eq_true rfl⟩ rfl (Nat.le_of_ble_eq_true rfl) ⟨Nat.zero_le _, Nat.zero_le _⟩ ?_
    exact re_z (ty := .boolean) hx hb hr hk (bX0_isLineLess S p0 ((xD S p0.toNatClampNeg) + (1 : Int64)) (xN S p0.toNatClampNeg) (86400000000000 : Int64)) dX0_isBackFromDay_37 (ei (if_pos c_1))
  · refine lv_iconst (v := (1 : Int32)) hx hb dX0_isBackFromDay_13 qi_1 ?_
    exact re_z (ty := .boolean) hx hb hr hk (by decide) dX0_isBackFromDay_14 (ei (if_neg c_1))

set_option maxRecDepth 100000 in
set_option maxHeartbeats 4000000 in
theorem c_X0_isBackFromCycle (l : Launch) (G : GT) (a : Nat → Nat) (S : SX) (p0 : Int32) (h0 : vp_in p0 6) : RO l G yX0_isBackFromCycle cX0_isBackFromCycle 4 (some .boolean) 4 [.ref (a 0), .int p0] (wX G a S) (some (.int (fX0_isBackFromCycle S p0))) := by
  refine RO.ofW (own := RX0) rfl (plainFor_of_name pnN_RX0) (Nat.le_of_ble_eq_true rfl) ?_
  intro p e s m below meth c C hr hk hE hP ls hl
  have hx := C.1
  have hb := C.2.1
  have hown := C.2.2.2.1
  have hw := C.2.2.2.2
  have hl : lv_has ls 4 [(0, .ref (a 0)), (1, .int p0)] := hl
  refine lv_aload_n hx hb dX0_isBackFromCycle_0 rfl (lv_at hl 0 rfl) ?_
  refine va_get (D := gD G) (cl := vwCl) (tys := gT G) (ci := 2) (v := .ref (a 1)) (C := RX0) (T := TX0) (N := 12) hx hb hw inB_X0 hown hE.K hP 0 rfl rfl 0 (by decide) (hw _ bw94) (fun _ h9 => h9) rfl dX0_isBackFromCycle_1 ?_
  refine lv_iload_n hx hb dX0_isBackFromCycle_4 rfl (lv_at hl 1 rfl) ?_
  refine va_iald (tys := gT G) hx hb hE.K hP 1 0 rfl rfl h0 dX0_isBackFromCycle_5 ?_
  refine lv_sipush (v := (400 : Int32)) hx hb dX0_isBackFromCycle_6 qs_400 ?_
  refine lv_iadd hx hb dX0_isBackFromCycle_9 ?_
  refine lv_istore_n (lv' := [(2, .int ((xy S p0.toNatClampNeg) + (400 : Int32))), (0, .ref (a 0)), (1, .int p0)]) hx hb dX0_isBackFromCycle_10 rfl hl (Nat.le_of_ble_eq_true rfl) rfl (fun ls hl => ?_)
  refine lv_iload_n hx hb dX0_isBackFromCycle_11 rfl (lv_at hl 0 rfl) ?_
  refine lv_sipush (v := (9999 : Int32)) hx hb dX0_isBackFromCycle_12 qs_9999 ?_
  refine lv_icmp_le (tgt := 20) hx hb dX0_isBackFromCycle_15 (by decide) (fun c_1 => ?_) (fun c_1 => ?_)
  · refine lv_aload_n hx hb dX0_isBackFromCycle_20 rfl (lv_at hl 1 rfl) ?_
    refine va_get (D := gD G) (cl := vwCl) (tys := gT G) (ci := 2) (v := .ref (a 3)) (C := RX0) (T := TX0) (N := 12) hx hb hw inB_X0 hown hE.K hP 0 rfl rfl 2 (by decide) (hw _ bw96) (fun _ h9 => h9) rfl dX0_isBackFromCycle_21 ?_
    refine lv_iload_n hx hb dX0_isBackFromCycle_24 rfl (lv_at hl 2 rfl) ?_
    refine va_iald (tys := gT G) hx hb hE.K hP 3 0 rfl rfl h0 dX0_isBackFromCycle_25 ?_
    refine lv_iload_n hx hb dX0_isBackFromCycle_26 rfl (lv_at hl 0 rfl) ?_
    refine lv_aload_n hx hb dX0_isBackFromCycle_27 rfl (lv_at hl 1 rfl) ?_
    refine va_get (D := gD G) (cl := vwCl) (tys := gT G) (ci := 2) (v := .ref (a 2)) (C := RX0) (T := TX0) (N := 12) hx hb hw inB_X0 hown hE.K hP 0 rfl rfl 1 (by decide) (hw _ bw95) (fun _ h9 => h9) rfl dX0_isBackFromCycle_28 ?_
    refine lv_iload_n hx hb dX0_isBackFromCycle_31 rfl (lv_at hl 2 rfl) ?_
    refine va_iald (tys := gT G) hx hb hE.K hP 2 0 rfl rfl h0 dX0_isBackFromCycle_32 ?_
    refine rcSi (as := [.int ((xy S p0.toNatClampNeg) + (400 : Int32)), .int (xm S p0.toNatClampNeg)]) (rest := [.int (xd S p0.toNatClampNeg)]) C (c_X0_monthLength l G ((xy S p0.toNatClampNeg) + (400 : Int32)) (xm S p0.toNatClampNeg)) F_X0_monthLength rfl bw210 bw211 hE vpn hl.1 dX0_isBackFromCycle_33 ⟨Nat.le_of_ble_eq_true rfl, Nat.le_of_ble_eq_true rfl⟩ rfl (Nat.le_of_ble_eq_true rfl) ⟨Nat.zero_le _, Nat.zero_le _⟩ ?_
    refine rcSi (as := [.int (xd S p0.toNatClampNeg), .int (fX0_monthLength ((xy S p0.toNatClampNeg) + (400 : Int32)) (xm S p0.toNatClampNeg))]) (rest := []) C (c_J9_min_7cf53 l G (xd S p0.toNatClampNeg) (fX0_monthLength ((xy S p0.toNatClampNeg) + (400 : Int32)) (xm S p0.toNatClampNeg))) F_J9_min_7cf53 rfl bw213 bw214 hE vpn hl.1 dX0_isBackFromCycle_36 ⟨Nat.le_of_ble_eq_true rfl, Nat.le_of_ble_eq_true rfl⟩ rfl (Nat.le_of_ble_eq_true rfl) ⟨Nat.zero_le _, Nat.zero_le _⟩ ?_
    refine lv_istore_n (lv' := [(3, .int (fJ9_min_7cf53 (xd S p0.toNatClampNeg) (fX0_monthLength ((xy S p0.toNatClampNeg) + (400 : Int32)) (xm S p0.toNatClampNeg)))), (2, .int ((xy S p0.toNatClampNeg) + (400 : Int32))), (0, .ref (a 0)), (1, .int p0)]) hx hb dX0_isBackFromCycle_39 rfl hl (Nat.le_of_ble_eq_true rfl) rfl (fun ls hl => ?_)
    refine lv_iload_n hx hb dX0_isBackFromCycle_40 rfl (lv_at hl 1 rfl) ?_
    refine lv_aload_n hx hb dX0_isBackFromCycle_41 rfl (lv_at hl 2 rfl) ?_
    refine va_get (D := gD G) (cl := vwCl) (tys := gT G) (ci := 2) (v := .ref (a 2)) (C := RX0) (T := TX0) (N := 12) hx hb hw inB_X0 hown hE.K hP 0 rfl rfl 1 (by decide) (hw _ bw95) (fun _ h9 => h9) rfl dX0_isBackFromCycle_42 ?_
    refine lv_iload_n hx hb dX0_isBackFromCycle_45 rfl (lv_at hl 3 rfl) ?_
    refine va_iald (tys := gT G) hx hb hE.K hP 2 0 rfl rfl h0 dX0_isBackFromCycle_46 ?_
    refine lv_iload_n hx hb dX0_isBackFromCycle_47 rfl (lv_at hl 0 rfl) ?_
    refine rcSl (as := [.int ((xy S p0.toNatClampNeg) + (400 : Int32)), .int (xm S p0.toNatClampNeg), .int (fJ9_min_7cf53 (xd S p0.toNatClampNeg) (fX0_monthLength ((xy S p0.toNatClampNeg) + (400 : Int32)) (xm S p0.toNatClampNeg)))]) (rest := []) C (c_X0_dayOf l G ((xy S p0.toNatClampNeg) + (400 : Int32)) (xm S p0.toNatClampNeg) (fJ9_min_7cf53 (xd S p0.toNatClampNeg) (fX0_monthLength ((xy S p0.toNatClampNeg) + (400 : Int32)) (xm S p0.toNatClampNeg)))) F_X0_dayOf rfl bw167 bw168 hE vpn hl.1 dX0_isBackFromCycle_48 ⟨Nat.le_of_ble_eq_true rfl, Nat.le_of_ble_eq_true rfl⟩ rfl (Nat.le_of_ble_eq_true rfl) ⟨Nat.zero_le _, Nat.zero_le _⟩ ?_
    refine lv_ldc2 (v := (146097 : Int64)) hx hb hown (hw _ bw216) dX0_isBackFromCycle_51 ?_
    refine lv_lsub hx hb dX0_isBackFromCycle_54 ?_
    refine lv_aload_n hx hb dX0_isBackFromCycle_55 rfl (lv_at hl 2 rfl) ?_
    refine va_get (D := gD G) (cl := vwCl) (tys := gT G) (ci := 2) (v := .ref (a 4)) (C := RX0) (T := TX0) (N := 12) hx hb hw inB_X0 hown hE.K hP 0 rfl rfl 3 (by decide) (hw _ bw97) (fun _ h9 => h9) rfl dX0_isBackFromCycle_56 ?_
    refine lv_iload_n hx hb dX0_isBackFromCycle_59 rfl (lv_at hl 3 rfl) ?_
    refine va_lald (tys := gT G) hx hb hE.K hP 4 1 rfl rfl h0 dX0_isBackFromCycle_60 ?_
    refine W.lcmp hx hb dX0_isBackFromCycle_61 ?_
    refine lv_if_ne (tgt := 69) hx hb dX0_isBackFromCycle_62 (by decide) (fun c_2 => ?_) (fun c_2 => ?_)
    · refine lv_iconst (v := (0 : Int32)) hx hb dX0_isBackFromCycle_69 qi_0 ?_
      exact re_z (ty := .boolean) hx hb hr hk (by decide) dX0_isBackFromCycle_70 (ei (Eq.trans (if_pos c_1) (if_neg c_2)))
    · refine lv_iconst (v := (1 : Int32)) hx hb dX0_isBackFromCycle_65 qi_1 ?_
      refine lv_goto (tgt := 70) hx hb dX0_isBackFromCycle_66 (by decide) ?_
      exact re_z (ty := .boolean) hx hb hr hk (by decide) dX0_isBackFromCycle_70 (ei (Eq.trans (if_pos c_1) (if_pos c_2)))
  · refine lv_iconst (v := (1 : Int32)) hx hb dX0_isBackFromCycle_18 qi_1 ?_
    exact re_z (ty := .boolean) hx hb hr hk (by decide) dX0_isBackFromCycle_19 (ei (if_neg c_1))

set_option maxRecDepth 100000 in
set_option maxHeartbeats 4000000 in
theorem c_X0_isSoundAlone (l : Launch) (G : GT) (a : Nat → Nat) (S : SX) (p0 : Int32) (h0 : vp_in p0 6) : RO l G yX0_isSoundAlone cX0_isSoundAlone 2 (some .boolean) 5 [.ref (a 0), .int p0] (wX G a S) (some (.int (fX0_isSoundAlone S p0))) := by
  refine RO.ofW (own := RX0) rfl (plainFor_of_name pnN_RX0) (Nat.le_of_ble_eq_true rfl) ?_
  intro p e s m below meth c C hr hk hE hP ls hl
  have hx := C.1
  have hb := C.2.1
  have hown := C.2.2.2.1
  have hw := C.2.2.2.2
  have hl : lv_has ls 2 [(0, .ref (a 0)), (1, .int p0)] := hl
  refine lv_aload_n hx hb dX0_isSoundAlone_0 rfl (lv_at hl 0 rfl) ?_
  refine lv_iload_n hx hb dX0_isSoundAlone_1 rfl (lv_at hl 1 rfl) ?_
  refine rcVi (as := [.int p0]) (rest := []) (cl := RX0) C (c_X0_isItsParts l G a S p0 h0) F_X0_isItsParts rfl bw145 bw147 bw1 hE hP (rv2 hE.K hP (q0 := 0) rfl) hl.1 dX0_isSoundAlone_2 ⟨Nat.le_of_ble_eq_true rfl, Nat.le_of_ble_eq_true rfl⟩ rfl (Nat.le_of_ble_eq_true rfl) ⟨Nat.zero_le _, Nat.zero_le _⟩ ?_
  refine lv_if_eq (tgt := 56) hx hb dX0_isSoundAlone_5 (by decide) (fun c_1 => ?_) (fun c_1 => ?_)
  · refine lv_iconst (v := (0 : Int32)) hx hb dX0_isSoundAlone_56 qi_0 ?_
    exact re_z (ty := .boolean) hx hb hr hk (by decide) dX0_isSoundAlone_57 (ei (if_pos c_1))
  · refine lv_aload_n hx hb dX0_isSoundAlone_8 rfl (lv_at hl 0 rfl) ?_
    refine lv_iload_n hx hb dX0_isSoundAlone_9 rfl (lv_at hl 1 rfl) ?_
    refine rcVi (as := [.int p0]) (rest := []) (cl := RX0) C (c_X0_isItsDateAndTime l G a S p0 h0) F_X0_isItsDateAndTime rfl bw178 bw180 bw2 hE hP (rv2 hE.K hP (q0 := 0) rfl) hl.1 dX0_isSoundAlone_10 ⟨Nat.le_of_ble_eq_true rfl, Nat.le_of_ble_eq_true rfl⟩ rfl (Nat.le_of_ble_eq_true rfl) ⟨Nat.zero_le _, Nat.zero_le _⟩ ?_
    refine lv_if_eq (tgt := 56) hx hb dX0_isSoundAlone_13 (by decide) (fun c_2 => ?_) (fun c_2 => ?_)
    · refine lv_iconst (v := (0 : Int32)) hx hb dX0_isSoundAlone_56 qi_0 ?_
      exact re_z (ty := .boolean) hx hb hr hk (by decide) dX0_isSoundAlone_57 (ei (Eq.trans (if_neg c_1) (if_pos c_2)))
    · refine lv_aload_n hx hb dX0_isSoundAlone_16 rfl (lv_at hl 0 rfl) ?_
      refine lv_iload_n hx hb dX0_isSoundAlone_17 rfl (lv_at hl 1 rfl) ?_
      refine rcVi (as := [.int p0]) (rest := []) (cl := RX0) C (c_X0_isBackFromNano l G a S p0 h0) F_X0_isBackFromNano rfl bw186 bw188 bw4 hE hP (rv2 hE.K hP (q0 := 0) rfl) hl.1 dX0_isSoundAlone_18 ⟨Nat.le_of_ble_eq_true rfl, Nat.le_of_ble_eq_true rfl⟩ rfl (Nat.le_of_ble_eq_true rfl) ⟨Nat.zero_le _, Nat.zero_le _⟩ ?_
      refine lv_if_eq (tgt := 56) hx hb dX0_isSoundAlone_21 (by decide) (fun c_3 => ?_) (fun c_3 => ?_)
      · refine lv_iconst (v := (0 : Int32)) hx hb dX0_isSoundAlone_56 qi_0 ?_
        exact re_z (ty := .boolean) hx hb hr hk (by decide) dX0_isSoundAlone_57 (ei (Eq.trans (if_neg c_1) (Eq.trans (if_neg c_2) (if_pos c_3))))
      · refine lv_aload_n hx hb dX0_isSoundAlone_24 rfl (lv_at hl 0 rfl) ?_
        refine lv_iload_n hx hb dX0_isSoundAlone_25 rfl (lv_at hl 1 rfl) ?_
        refine rcVi (as := [.int p0]) (rest := []) (cl := RX0) C (c_X0_isBackFromDay l G a S p0 h0) F_X0_isBackFromDay rfl bw202 bw204 bw6 hE hP (rv2 hE.K hP (q0 := 0) rfl) hl.1 dX0_isSoundAlone_26 ⟨Nat.le_of_ble_eq_true rfl, Nat.le_of_ble_eq_true rfl⟩ rfl (Nat.le_of_ble_eq_true rfl) ⟨Nat.zero_le _, Nat.zero_le _⟩ ?_
        refine lv_if_eq (tgt := 56) hx hb dX0_isSoundAlone_29 (by decide) (fun c_4 => ?_) (fun c_4 => ?_)
        · refine lv_iconst (v := (0 : Int32)) hx hb dX0_isSoundAlone_56 qi_0 ?_
          exact re_z (ty := .boolean) hx hb hr hk (by decide) dX0_isSoundAlone_57 (ei (Eq.trans (if_neg c_1) (Eq.trans (if_neg c_2) (Eq.trans (if_neg c_3) (if_pos c_4)))))
        · refine lv_aload_n hx hb dX0_isSoundAlone_32 rfl (lv_at hl 0 rfl) ?_
          refine lv_iload_n hx hb dX0_isSoundAlone_33 rfl (lv_at hl 1 rfl) ?_
          refine rcVi (as := [.int p0]) (rest := []) (cl := RX0) C (c_X0_isBackFromCycle l G a S p0 h0) F_X0_isBackFromCycle rfl bw206 bw208 bw7 hE hP (rv2 hE.K hP (q0 := 0) rfl) hl.1 dX0_isSoundAlone_34 ⟨Nat.le_of_ble_eq_true rfl, Nat.le_of_ble_eq_true rfl⟩ rfl (Nat.le_of_ble_eq_true rfl) ⟨Nat.zero_le _, Nat.zero_le _⟩ ?_
          refine lv_if_eq (tgt := 56) hx hb dX0_isSoundAlone_37 (by decide) (fun c_5 => ?_) (fun c_5 => ?_)
          · refine lv_iconst (v := (0 : Int32)) hx hb dX0_isSoundAlone_56 qi_0 ?_
            exact re_z (ty := .boolean) hx hb hr hk (by decide) dX0_isSoundAlone_57 (ei (Eq.trans (if_neg c_1) (Eq.trans (if_neg c_2) (Eq.trans (if_neg c_3) (Eq.trans (if_neg c_4) (if_pos c_5))))))
          · refine lv_aload_n hx hb dX0_isSoundAlone_40 rfl (lv_at hl 0 rfl) ?_
            refine va_get (D := gD G) (cl := vwCl) (tys := gT G) (ci := 2) (v := .ref (a 5)) (C := RX0) (T := TX0) (N := 12) hx hb hw inB_X0 hown hE.K hP 0 rfl rfl 4 (by decide) (hw _ bw98) (fun _ h9 => h9) rfl dX0_isSoundAlone_41 ?_
            refine lv_iload_n hx hb dX0_isSoundAlone_44 rfl (lv_at hl 1 rfl) ?_
            refine va_lald (tys := gT G) hx hb hE.K hP 5 1 rfl rfl h0 dX0_isSoundAlone_45 ?_
            refine rcSi (as := [.long (xN S p0.toNatClampNeg)]) (rest := []) C (c_X0_isCutWell l G (xN S p0.toNatClampNeg)) F_X0_isCutWell rfl bw217 bw218 hE vpn hl.1 dX0_isSoundAlone_46 ⟨Nat.le_of_ble_eq_true rfl, Nat.le_of_ble_eq_true rfl⟩ rfl (Nat.le_of_ble_eq_true rfl) ⟨Nat.zero_le _, Nat.zero_le _⟩ ?_
            refine lv_if_eq (tgt := 56) hx hb dX0_isSoundAlone_49 (by decide) (fun c_6 => ?_) (fun c_6 => ?_)
            · refine lv_iconst (v := (0 : Int32)) hx hb dX0_isSoundAlone_56 qi_0 ?_
              exact re_z (ty := .boolean) hx hb hr hk (by decide) dX0_isSoundAlone_57 (ei (Eq.trans (if_neg c_1) (Eq.trans (if_neg c_2) (Eq.trans (if_neg c_3) (Eq.trans (if_neg c_4) (Eq.trans (if_neg c_5) (if_pos c_6)))))))
            · refine lv_iconst (v := (1 : Int32)) hx hb dX0_isSoundAlone_52 qi_1 ?_
              refine lv_goto (tgt := 57) hx hb dX0_isSoundAlone_53 (by decide) ?_
              exact re_z (ty := .boolean) hx hb hr hk (by decide) dX0_isSoundAlone_57 (ei (Eq.trans (if_neg c_1) (Eq.trans (if_neg c_2) (Eq.trans (if_neg c_3) (Eq.trans (if_neg c_4) (Eq.trans (if_neg c_5) (if_neg c_6)))))))

set_option maxRecDepth 100000 in
set_option maxHeartbeats 4000000 in
theorem c_X0_isSoundPair (l : Launch) (G : GT) (a : Nat → Nat) (S : SX) (p0 : Int32) (p1 : Int32) (h0 : vp_in p0 6) (h1 : vp_in p1 6) : RO l G yX0_isSoundPair cX0_isSoundPair 5 (some .boolean) 3 [.ref (a 0), .int p0, .int p1] (wX G a S) (some (.int (fX0_isSoundPair S p0 p1))) := by
  refine RO.ofW (own := RX0) rfl (plainFor_of_name pnN_RX0) (Nat.le_of_ble_eq_true rfl) ?_
  intro p e s m below meth c C hr hk hE hP ls hl
  have hx := C.1
  have hb := C.2.1
  have hown := C.2.2.2.1
  have hw := C.2.2.2.2
  have hl : lv_has ls 5 [(0, .ref (a 0)), (1, .int p0), (2, .int p1)] := hl
  refine lv_aload_n hx hb dX0_isSoundPair_0 rfl (lv_at hl 0 rfl) ?_
  refine lv_iload_n hx hb dX0_isSoundPair_1 rfl (lv_at hl 1 rfl) ?_
  refine lv_iload_n hx hb dX0_isSoundPair_2 rfl (lv_at hl 2 rfl) ?_
  refine rcVi (as := [.int p0, .int p1]) (rest := []) (cl := RX0) C (c_X0_order l G a S p0 p1 h0 h1) F_X0_order rfl bw236 bw238 bw9 hE hP (rv2 hE.K hP (q0 := 0) rfl) hl.1 dX0_isSoundPair_3 ⟨Nat.le_of_ble_eq_true rfl, Nat.le_of_ble_eq_true rfl⟩ rfl (Nat.le_of_ble_eq_true rfl) ⟨Nat.zero_le _, Nat.zero_le _⟩ ?_
  refine lv_istore_n (lv' := [(3, .int (fX0_order S p0 p1)), (0, .ref (a 0)), (1, .int p0), (2, .int p1)]) hx hb dX0_isSoundPair_6 rfl hl (Nat.le_of_ble_eq_true rfl) rfl (fun ls hl => ?_)
  refine lv_aload_n hx hb dX0_isSoundPair_7 rfl (lv_at hl 1 rfl) ?_
  refine lv_iload_n hx hb dX0_isSoundPair_8 rfl (lv_at hl 3 rfl) ?_
  refine lv_iload_n hx hb dX0_isSoundPair_9 rfl (lv_at hl 2 rfl) ?_
  refine rcVi (as := [.int p1, .int p0]) (rest := []) (cl := RX0) C (c_X0_order l G a S p1 p0 h1 h0) F_X0_order rfl bw236 bw238 bw9 hE hP (rv2 hE.K hP (q0 := 0) rfl) hl.1 dX0_isSoundPair_10 ⟨Nat.le_of_ble_eq_true rfl, Nat.le_of_ble_eq_true rfl⟩ rfl (Nat.le_of_ble_eq_true rfl) ⟨Nat.zero_le _, Nat.zero_le _⟩ ?_
  refine lv_istore (lv' := [(4, .int (fX0_order S p1 p0)), (3, .int (fX0_order S p0 p1)), (0, .ref (a 0)), (1, .int p0), (2, .int p1)]) hx hb dX0_isSoundPair_13 hl (Nat.le_of_ble_eq_true rfl) rfl (fun ls hl => ?_)
  refine lv_iload_n hx hb dX0_isSoundPair_15 rfl (lv_at hl 1 rfl) ?_
  refine lv_iload hx hb dX0_isSoundPair_16 (lv_at hl 0 rfl) ?_
  refine lv_ineg hx hb dX0_isSoundPair_18 ?_
  refine lv_icmp_ne (tgt := 65) hx hb dX0_isSoundPair_19 (by decide) (fun c_1 => ?_) (fun c_1 => ?_)
  · refine lv_iconst (v := (0 : Int32)) hx hb dX0_isSoundPair_65 qi_0 ?_
    exact re_z (ty := .boolean) hx hb hr hk (by decide) dX0_isSoundPair_66 (ei (if_neg c_1))
  · refine lv_aload_n hx hb dX0_isSoundPair_22 rfl (lv_at hl 2 rfl) ?_
    refine lv_iload_n hx hb dX0_isSoundPair_23 rfl (lv_at hl 3 rfl) ?_
    refine lv_iload_n hx hb dX0_isSoundPair_24 rfl (lv_at hl 4 rfl) ?_
    refine rcVi (as := [.int p0, .int p1]) (rest := []) (cl := RX0) C (c_X0_isSameLine l G a S p0 p1 h0 h1) F_X0_isSameLine rfl bw240 bw242 bw10 hE hP (rv2 hE.K hP (q0 := 0) rfl) hl.1 dX0_isSoundPair_25 ⟨Nat.le_of_ble_eq_true rfl, Nat.le_of_ble_eq_true rfl⟩ rfl (Nat.le_of_ble_eq_true rfl) ⟨Nat.zero_le _, Nat.zero_le _⟩ ?_
    refine lv_iload_n hx hb dX0_isSoundPair_28 rfl (lv_at hl 1 rfl) ?_
    refine k_dia (b := (fX0_order S p0 p1) = 0) (x := (1 : Int32)) (y := (0 : Int32)) (Wg := fun z9 => W _ _ _ _ _ _ _ _ _ _ _ _ _ _ _ (F0 m 37 ls (.int z9 :: _))) ?_ (fun t9 f9 => lv_if_ne (tgt := 36) hx hb dX0_isSoundPair_29 (by decide) (fun c_x => lv_iconst (v := (0 : Int32)) hx hb dX0_isSoundPair_36 qi_0 (f9 c_x)) (fun c_x => lv_iconst (v := (1 : Int32)) hx hb dX0_isSoundPair_32 qi_1 (lv_goto (tgt := 37) hx hb dX0_isSoundPair_33 (by decide) (t9 c_x))))
    refine lv_icmp_ne (tgt := 65) hx hb dX0_isSoundPair_37 (by decide) (fun c_2 => ?_) (fun c_2 => ?_)
    · refine lv_iconst (v := (0 : Int32)) hx hb dX0_isSoundPair_65 qi_0 ?_
      exact re_z (ty := .boolean) hx hb hr hk (by decide) dX0_isSoundPair_66 (ei (Eq.trans (if_pos c_1) (if_neg c_2)))
    · refine lv_aload_n hx hb dX0_isSoundPair_40 rfl (lv_at hl 2 rfl) ?_
      refine lv_iload_n hx hb dX0_isSoundPair_41 rfl (lv_at hl 3 rfl) ?_
      refine lv_iload_n hx hb dX0_isSoundPair_42 rfl (lv_at hl 4 rfl) ?_
      refine lv_bipush (v := (7 : Int32)) hx hb dX0_isSoundPair_43 qb_7 ?_
      refine rcVl (as := [.int p0, .int p1, .int (7 : Int32)]) (rest := []) (cl := RX0) C (c_X0_gapInUnits l G a S p0 p1 (7 : Int32) h0 h1) F_X0_gapInUnits rfl bw244 bw246 bw11 hE hP (rv2 hE.K hP (q0 := 0) rfl) hl.1 dX0_isSoundPair_45 ⟨Nat.le_of_ble_eq_true rfl, Nat.le_of_ble_eq_true rfl⟩ rfl (Nat.le_of_ble_eq_true rfl) ⟨Nat.zero_le _, Nat.zero_le _⟩ ?_
      refine lv_aload_n hx hb dX0_isSoundPair_48 rfl (lv_at hl 2 rfl) ?_
      refine lv_iload_n hx hb dX0_isSoundPair_49 rfl (lv_at hl 4 rfl) ?_
      refine lv_iload_n hx hb dX0_isSoundPair_50 rfl (lv_at hl 3 rfl) ?_
      refine lv_bipush (v := (7 : Int32)) hx hb dX0_isSoundPair_51 qb_7 ?_
      refine rcVl (as := [.int p1, .int p0, .int (7 : Int32)]) (rest := [.long (fX0_gapInUnits S p0 p1 (7 : Int32))]) (cl := RX0) C (c_X0_gapInUnits l G a S p1 p0 (7 : Int32) h1 h0) F_X0_gapInUnits rfl bw244 bw246 bw11 hE hP (rv2 hE.K hP (q0 := 0) rfl) hl.1 dX0_isSoundPair_53 ⟨Nat.le_of_ble_eq_true rfl, Nat.le_of_ble_eq_true rfl⟩ rfl (Nat.le_of_ble_eq_true rfl) ⟨Nat.zero_le _, Nat.zero_le _⟩ ?_
      refine lv_lneg hx hb dX0_isSoundPair_56 ?_
      refine W.lcmp hx hb dX0_isSoundPair_57 ?_
      refine lv_if_ne (tgt := 65) hx hb dX0_isSoundPair_58 (by decide) (fun c_3 => ?_) (fun c_3 => ?_)
      · refine lv_iconst (v := (0 : Int32)) hx hb dX0_isSoundPair_65 qi_0 ?_
        exact re_z (ty := .boolean) hx hb hr hk (by decide) dX0_isSoundPair_66 (ei (Eq.trans (if_pos c_1) (Eq.trans (if_pos c_2) (if_neg c_3))))
      · refine lv_iconst (v := (1 : Int32)) hx hb dX0_isSoundPair_61 qi_1 ?_
        refine lv_goto (tgt := 66) hx hb dX0_isSoundPair_62 (by decide) ?_
        exact re_z (ty := .boolean) hx hb hr hk (by decide) dX0_isSoundPair_66 (ei (Eq.trans (if_pos c_1) (Eq.trans (if_pos c_2) (if_pos c_3))))

set_option maxRecDepth 100000 in
set_option maxHeartbeats 4000000 in
theorem c_X0_dateField (l : Launch) (G : GT) (a : Nat → Nat) (S : SX) (p0 : Int32) (p1 : Int32) (h0 : vp_in p0 6) : RO l G yX0_dateField cX0_dateField 4 (some .long) 4 [.ref (a 0), .int p0, .int p1] (wX G a S) (some (.long (fX0_dateField S p0 p1))) := by
  refine RO.ofW (own := RX0) rfl (plainFor_of_name pnN_RX0) (Nat.le_of_ble_eq_true rfl) ?_
  intro p e s m below meth c C hr hk hE hP ls hl
  have hx := C.1
  have hb := C.2.1
  have hown := C.2.2.2.1
  have hw := C.2.2.2.2
  have hl : lv_has ls 4 [(0, .ref (a 0)), (1, .int p0), (2, .int p1)] := hl
  refine lv_aload_n hx hb dX0_dateField_0 rfl (lv_at hl 0 rfl) ?_
  refine va_get (D := gD G) (cl := vwCl) (tys := gT G) (ci := 2) (v := .ref (a 1)) (C := RX0) (T := TX0) (N := 12) hx hb hw inB_X0 hown hE.K hP 0 rfl rfl 0 (by decide) (hw _ bw94) (fun _ h9 => h9) rfl dX0_dateField_1 ?_
  refine lv_iload_n hx hb dX0_dateField_4 rfl (lv_at hl 1 rfl) ?_
  refine va_iald (tys := gT G) hx hb hE.K hP 1 0 rfl rfl h0 dX0_dateField_5 ?_
  refine lv_istore_n (lv' := [(3, .int (xy S p0.toNatClampNeg)), (0, .ref (a 0)), (1, .int p0), (2, .int p1)]) hx hb dX0_dateField_6 rfl hl (Nat.le_of_ble_eq_true rfl) rfl (fun ls hl => ?_)
  refine lv_iload_n hx hb dX0_dateField_7 rfl (lv_at hl 3 rfl) ?_
  by_cases c_1 : p1 = (15 : Int32)
  · refine lv_tableIn (tgt := 72) (off := 64) hx hb dX0_dateField_8 (by rw [c_1]; decide) (by rw [c_1]; decide) (by rw [c_1]; decide) (by decide) ?_
    refine lv_aload_n hx hb dX0_dateField_72 rfl (lv_at hl 1 rfl) ?_
    refine va_get (D := gD G) (cl := vwCl) (tys := gT G) (ci := 2) (v := .ref (a 4)) (C := RX0) (T := TX0) (N := 12) hx hb hw inB_X0 hown hE.K hP 0 rfl rfl 3 (by decide) (hw _ bw97) (fun _ h9 => h9) rfl dX0_dateField_73 ?_
    refine lv_iload_n hx hb dX0_dateField_76 rfl (lv_at hl 2 rfl) ?_
    refine va_lald (tys := gT G) hx hb hE.K hP 4 1 rfl rfl h0 dX0_dateField_77 ?_
    refine rcSi (as := [.long (xD S p0.toNatClampNeg)]) (rest := []) C (c_X0_weekday l G (xD S p0.toNatClampNeg)) F_X0_weekday rfl bw262 bw263 hE vpn hl.1 dX0_dateField_78 ⟨Nat.le_of_ble_eq_true rfl, Nat.le_of_ble_eq_true rfl⟩ rfl (Nat.le_of_ble_eq_true rfl) ⟨Nat.zero_le _, Nat.zero_le _⟩ ?_
    refine lv_i2l (v := ((fX0_weekday (xD S p0.toNatClampNeg)).toInt64)) hx hb dX0_dateField_81 (by first | rfl | decide) ?_
    exact re_l hx hb hr hk dX0_dateField_82 (el (if_pos c_1))
  by_cases c_2 : p1 = (16 : Int32)
  · refine lv_tableIn (tgt := 83) (off := 75) hx hb dX0_dateField_8 (by rw [c_2]; decide) (by rw [c_2]; decide) (by rw [c_2]; decide) (by decide) ?_
    refine lv_aload_n hx hb dX0_dateField_83 rfl (lv_at hl 1 rfl) ?_
    refine va_get (D := gD G) (cl := vwCl) (tys := gT G) (ci := 2) (v := .ref (a 3)) (C := RX0) (T := TX0) (N := 12) hx hb hw inB_X0 hown hE.K hP 0 rfl rfl 2 (by decide) (hw _ bw96) (fun _ h9 => h9) rfl dX0_dateField_84 ?_
    refine lv_iload_n hx hb dX0_dateField_87 rfl (lv_at hl 2 rfl) ?_
    refine va_iald (tys := gT G) hx hb hE.K hP 3 0 rfl rfl h0 dX0_dateField_88 ?_
    refine lv_iconst (v := (1 : Int32)) hx hb dX0_dateField_89 qi_1 ?_
    refine lv_isub hx hb dX0_dateField_90 ?_
    refine lv_bipush (v := (7 : Int32)) hx hb dX0_dateField_91 qb_7 ?_
    refine lv_irem hx hb dX0_dateField_93 (by decide) ?_
    refine lv_iconst (v := (1 : Int32)) hx hb dX0_dateField_94 qi_1 ?_
    refine lv_iadd hx hb dX0_dateField_95 ?_
    refine lv_i2l (v := (((((xd S p0.toNatClampNeg) - (1 : Int32)) - ((xd S p0.toNatClampNeg) - (1 : Int32)) / (7 : Int32) * (7 : Int32)) + (1 : Int32)).toInt64)) hx hb dX0_dateField_96 (by first | rfl | decide) ?_
    exact re_l hx hb hr hk dX0_dateField_97 (el (Eq.trans (if_neg c_1) (if_pos c_2)))
  by_cases c_3 : p1 = (17 : Int32)
  · refine lv_tableIn (tgt := 98) (off := 90) hx hb dX0_dateField_8 (by rw [c_3]; decide) (by rw [c_3]; decide) (by rw [c_3]; decide) (by decide) ?_
    refine lv_aload_n hx hb dX0_dateField_98 rfl (lv_at hl 1 rfl) ?_
    refine lv_iload_n hx hb dX0_dateField_99 rfl (lv_at hl 2 rfl) ?_
    refine rcVi (as := [.int p0]) (rest := []) (cl := RX0) C (c_X0_yearDay l G a S p0 h0) F_X0_yearDay rfl bw182 bw184 bw3 hE hP (rv2 hE.K hP (q0 := 0) rfl) hl.1 dX0_dateField_100 ⟨Nat.le_of_ble_eq_true rfl, Nat.le_of_ble_eq_true rfl⟩ rfl (Nat.le_of_ble_eq_true rfl) ⟨Nat.zero_le _, Nat.zero_le _⟩ ?_
    refine lv_iconst (v := (1 : Int32)) hx hb dX0_dateField_103 qi_1 ?_
    refine lv_isub hx hb dX0_dateField_104 ?_
    refine lv_bipush (v := (7 : Int32)) hx hb dX0_dateField_105 qb_7 ?_
    refine lv_irem hx hb dX0_dateField_107 (by decide) ?_
    refine lv_iconst (v := (1 : Int32)) hx hb dX0_dateField_108 qi_1 ?_
    refine lv_iadd hx hb dX0_dateField_109 ?_
    refine lv_i2l (v := (((((fX0_yearDay S p0) - (1 : Int32)) - ((fX0_yearDay S p0) - (1 : Int32)) / (7 : Int32) * (7 : Int32)) + (1 : Int32)).toInt64)) hx hb dX0_dateField_110 (by first | rfl | decide) ?_
    exact re_l hx hb hr hk dX0_dateField_111 (el (Eq.trans (if_neg c_1) (Eq.trans (if_neg c_2) (if_pos c_3))))
  by_cases c_4 : p1 = (18 : Int32)
  · refine lv_tableIn (tgt := 112) (off := 104) hx hb dX0_dateField_8 (by rw [c_4]; decide) (by rw [c_4]; decide) (by rw [c_4]; decide) (by decide) ?_
    refine lv_aload_n hx hb dX0_dateField_112 rfl (lv_at hl 1 rfl) ?_
    refine va_get (D := gD G) (cl := vwCl) (tys := gT G) (ci := 2) (v := .ref (a 3)) (C := RX0) (T := TX0) (N := 12) hx hb hw inB_X0 hown hE.K hP 0 rfl rfl 2 (by decide) (hw _ bw96) (fun _ h9 => h9) rfl dX0_dateField_113 ?_
    refine lv_iload_n hx hb dX0_dateField_116 rfl (lv_at hl 2 rfl) ?_
    refine va_iald (tys := gT G) hx hb hE.K hP 3 0 rfl rfl h0 dX0_dateField_117 ?_
    refine lv_i2l (v := ((xd S p0.toNatClampNeg).toInt64)) hx hb dX0_dateField_118 (by first | rfl | decide) ?_
    exact re_l hx hb hr hk dX0_dateField_119 (el (Eq.trans (if_neg c_1) (Eq.trans (if_neg c_2) (Eq.trans (if_neg c_3) (if_pos c_4)))))
  by_cases c_5 : p1 = (19 : Int32)
  · refine lv_tableIn (tgt := 120) (off := 112) hx hb dX0_dateField_8 (by rw [c_5]; decide) (by rw [c_5]; decide) (by rw [c_5]; decide) (by decide) ?_
    refine lv_aload_n hx hb dX0_dateField_120 rfl (lv_at hl 1 rfl) ?_
    refine lv_iload_n hx hb dX0_dateField_121 rfl (lv_at hl 2 rfl) ?_
    refine rcVi (as := [.int p0]) (rest := []) (cl := RX0) C (c_X0_yearDay l G a S p0 h0) F_X0_yearDay rfl bw182 bw184 bw3 hE hP (rv2 hE.K hP (q0 := 0) rfl) hl.1 dX0_dateField_122 ⟨Nat.le_of_ble_eq_true rfl, Nat.le_of_ble_eq_true rfl⟩ rfl (Nat.le_of_ble_eq_true rfl) ⟨Nat.zero_le _, Nat.zero_le _⟩ ?_
    refine lv_i2l (v := ((fX0_yearDay S p0).toInt64)) hx hb dX0_dateField_125 (by first | rfl | decide) ?_
    exact re_l hx hb hr hk dX0_dateField_126 (el (Eq.trans (if_neg c_1) (Eq.trans (if_neg c_2) (Eq.trans (if_neg c_3) (Eq.trans (if_neg c_4) (if_pos c_5))))))
  by_cases c_6 : p1 = (20 : Int32)
  · refine lv_tableIn (tgt := 127) (off := 119) hx hb dX0_dateField_8 (by rw [c_6]; decide) (by rw [c_6]; decide) (by rw [c_6]; decide) (by decide) ?_
    refine lv_aload_n hx hb dX0_dateField_127 rfl (lv_at hl 1 rfl) ?_
    refine va_get (D := gD G) (cl := vwCl) (tys := gT G) (ci := 2) (v := .ref (a 4)) (C := RX0) (T := TX0) (N := 12) hx hb hw inB_X0 hown hE.K hP 0 rfl rfl 3 (by decide) (hw _ bw97) (fun _ h9 => h9) rfl dX0_dateField_128 ?_
    refine lv_iload_n hx hb dX0_dateField_131 rfl (lv_at hl 2 rfl) ?_
    refine va_lald (tys := gT G) hx hb hE.K hP 4 1 rfl rfl h0 dX0_dateField_132 ?_
    exact re_l hx hb hr hk dX0_dateField_133 (el (Eq.trans (if_neg c_1) (Eq.trans (if_neg c_2) (Eq.trans (if_neg c_3) (Eq.trans (if_neg c_4) (Eq.trans (if_neg c_5) (if_pos c_6)))))))
  by_cases c_7 : p1 = (21 : Int32)
  · refine lv_tableIn (tgt := 134) (off := 126) hx hb dX0_dateField_8 (by rw [c_7]; decide) (by rw [c_7]; decide) (by rw [c_7]; decide) (by decide) ?_
    refine lv_aload_n hx hb dX0_dateField_134 rfl (lv_at hl 1 rfl) ?_
    refine va_get (D := gD G) (cl := vwCl) (tys := gT G) (ci := 2) (v := .ref (a 3)) (C := RX0) (T := TX0) (N := 12) hx hb hw inB_X0 hown hE.K hP 0 rfl rfl 2 (by decide) (hw _ bw96) (fun _ h9 => h9) rfl dX0_dateField_135 ?_
    refine lv_iload_n hx hb dX0_dateField_138 rfl (lv_at hl 2 rfl) ?_
    refine va_iald (tys := gT G) hx hb hE.K hP 3 0 rfl rfl h0 dX0_dateField_139 ?_
    refine lv_iconst (v := (1 : Int32)) hx hb dX0_dateField_140 qi_1 ?_
    refine lv_isub hx hb dX0_dateField_141 ?_
    refine lv_bipush (v := (7 : Int32)) hx hb dX0_dateField_142 qb_7 ?_
    refine lv_idiv hx hb dX0_dateField_144 (by decide) ?_
    refine lv_iconst (v := (1 : Int32)) hx hb dX0_dateField_145 qi_1 ?_
    refine lv_iadd hx hb dX0_dateField_146 ?_
    refine lv_i2l (v := (((((xd S p0.toNatClampNeg) - (1 : Int32)) / (7 : Int32)) + (1 : Int32)).toInt64)) hx hb dX0_dateField_147 (by first | rfl | decide) ?_
    exact re_l hx hb hr hk dX0_dateField_148 (el (Eq.trans (if_neg c_1) (Eq.trans (if_neg c_2) (Eq.trans (if_neg c_3) (Eq.trans (if_neg c_4) (Eq.trans (if_neg c_5) (Eq.trans (if_neg c_6) (if_pos c_7))))))))
  by_cases c_8 : p1 = (22 : Int32)
  · refine lv_tableIn (tgt := 149) (off := 141) hx hb dX0_dateField_8 (by rw [c_8]; decide) (by rw [c_8]; decide) (by rw [c_8]; decide) (by decide) ?_
    refine lv_aload_n hx hb dX0_dateField_149 rfl (lv_at hl 1 rfl) ?_
    refine lv_iload_n hx hb dX0_dateField_150 rfl (lv_at hl 2 rfl) ?_
    refine rcVi (as := [.int p0]) (rest := []) (cl := RX0) C (c_X0_yearDay l G a S p0 h0) F_X0_yearDay rfl bw182 bw184 bw3 hE hP (rv2 hE.K hP (q0 := 0) rfl) hl.1 dX0_dateField_151 ⟨Nat.le_of_ble_eq_true rfl, Nat.le_of_ble_eq_true rfl⟩ rfl (Nat.le_of_ble_eq_true rfl) ⟨Nat.zero_le _, Nat.zero_le _⟩ ?_
    refine lv_iconst (v := (1 : Int32)) hx hb dX0_dateField_154 qi_1 ?_
    refine lv_isub hx hb dX0_dateField_155 ?_
    refine lv_bipush (v := (7 : Int32)) hx hb dX0_dateField_156 qb_7 ?_
    refine lv_idiv hx hb dX0_dateField_158 (by decide) ?_
    refine lv_iconst (v := (1 : Int32)) hx hb dX0_dateField_159 qi_1 ?_
    refine lv_iadd hx hb dX0_dateField_160 ?_
    refine lv_i2l (v := (((((fX0_yearDay S p0) - (1 : Int32)) / (7 : Int32)) + (1 : Int32)).toInt64)) hx hb dX0_dateField_161 (by first | rfl | decide) ?_
    exact re_l hx hb hr hk dX0_dateField_162 (el (Eq.trans (if_neg c_1) (Eq.trans (if_neg c_2) (Eq.trans (if_neg c_3) (Eq.trans (if_neg c_4) (Eq.trans (if_neg c_5) (Eq.trans (if_neg c_6) (Eq.trans (if_neg c_7) (if_pos c_8)))))))))
  by_cases c_9 : p1 = (23 : Int32)
  · refine lv_tableIn (tgt := 163) (off := 155) hx hb dX0_dateField_8 (by rw [c_9]; decide) (by rw [c_9]; decide) (by rw [c_9]; decide) (by decide) ?_
    refine lv_aload_n hx hb dX0_dateField_163 rfl (lv_at hl 1 rfl) ?_
    refine va_get (D := gD G) (cl := vwCl) (tys := gT G) (ci := 2) (v := .ref (a 2)) (C := RX0) (T := TX0) (N := 12) hx hb hw inB_X0 hown hE.K hP 0 rfl rfl 1 (by decide) (hw _ bw95) (fun _ h9 => h9) rfl dX0_dateField_164 ?_
    refine lv_iload_n hx hb dX0_dateField_167 rfl (lv_at hl 2 rfl) ?_
    refine va_iald (tys := gT G) hx hb hE.K hP 2 0 rfl rfl h0 dX0_dateField_168 ?_
    refine lv_i2l (v := ((xm S p0.toNatClampNeg).toInt64)) hx hb dX0_dateField_169 (by first | rfl | decide) ?_
    exact re_l hx hb hr hk dX0_dateField_170 (el (Eq.trans (if_neg c_1) (Eq.trans (if_neg c_2) (Eq.trans (if_neg c_3) (Eq.trans (if_neg c_4) (Eq.trans (if_neg c_5) (Eq.trans (if_neg c_6) (Eq.trans (if_neg c_7) (Eq.trans (if_neg c_8) (if_pos c_9))))))))))
  by_cases c_10 : p1 = (24 : Int32)
  · refine lv_tableIn (tgt := 171) (off := 163) hx hb dX0_dateField_8 (by rw [c_10]; decide) (by rw [c_10]; decide) (by rw [c_10]; decide) (by decide) ?_
    refine lv_aload_n hx hb dX0_dateField_171 rfl (lv_at hl 1 rfl) ?_
    refine lv_iload_n hx hb dX0_dateField_172 rfl (lv_at hl 2 rfl) ?_
    refine rcVl (as := [.int p0]) (rest := []) (cl := RX0) C (c_X0_monthCount l G a S p0 h0) F_X0_monthCount rfl bw548 bw550 bw25 hE hP (rv2 hE.K hP (q0 := 0) rfl) hl.1 dX0_dateField_173 ⟨Nat.le_of_ble_eq_true rfl, Nat.le_of_ble_eq_true rfl⟩ rfl (Nat.le_of_ble_eq_true rfl) ⟨Nat.zero_le _, Nat.zero_le _⟩ ?_
    exact re_l hx hb hr hk dX0_dateField_176 (el (Eq.trans (if_neg c_1) (Eq.trans (if_neg c_2) (Eq.trans (if_neg c_3) (Eq.trans (if_neg c_4) (Eq.trans (if_neg c_5) (Eq.trans (if_neg c_6) (Eq.trans (if_neg c_7) (Eq.trans (if_neg c_8) (Eq.trans (if_neg c_9) (if_pos c_10)))))))))))
  by_cases c_11 : p1 = (25 : Int32)
  · refine lv_tableIn (tgt := 177) (off := 169) hx hb dX0_dateField_8 (by rw [c_11]; decide) (by rw [c_11]; decide) (by rw [c_11]; decide) (by decide) ?_
    refine lv_iload_n hx hb dX0_dateField_177 rfl (lv_at hl 0 rfl) ?_
    refine lv_if_le (tgt := 186) hx hb dX0_dateField_178 (by decide) (fun c_12 => ?_) (fun c_12 => ?_)
    · refine lv_iconst (v := (1 : Int32)) hx hb dX0_dateField_186 qi_1 ?_
      refine lv_iload_n hx hb dX0_dateField_187 rfl (lv_at hl 0 rfl) ?_
      refine lv_isub hx hb dX0_dateField_188 ?_
      refine lv_i2l (v := (((1 : Int32) - (xy S p0.toNatClampNeg)).toInt64)) hx hb dX0_dateField_189 (by first | rfl | decide) ?_
      exact re_l hx hb hr hk dX0_dateField_190 (el (Eq.trans (if_neg c_1) (Eq.trans (if_neg c_2) (Eq.trans (if_neg c_3) (Eq.trans (if_neg c_4) (Eq.trans (if_neg c_5) (Eq.trans (if_neg c_6) (Eq.trans (if_neg c_7) (Eq.trans (if_neg c_8) (Eq.trans (if_neg c_9) (Eq.trans (if_neg c_10) (Eq.trans (if_pos c_11) (if_pos c_12)))))))))))))
    · refine lv_iload_n hx hb dX0_dateField_181 rfl (lv_at hl 0 rfl) ?_
      refine lv_i2l (v := ((xy S p0.toNatClampNeg).toInt64)) hx hb dX0_dateField_182 (by first | rfl | decide) ?_
      refine lv_goto (tgt := 190) hx hb dX0_dateField_183 (by decide) ?_
      exact re_l hx hb hr hk dX0_dateField_190 (el (Eq.trans (if_neg c_1) (Eq.trans (if_neg c_2) (Eq.trans (if_neg c_3) (Eq.trans (if_neg c_4) (Eq.trans (if_neg c_5) (Eq.trans (if_neg c_6) (Eq.trans (if_neg c_7) (Eq.trans (if_neg c_8) (Eq.trans (if_neg c_9) (Eq.trans (if_neg c_10) (Eq.trans (if_pos c_11) (if_neg c_12)))))))))))))
  by_cases c_13 : p1 = (26 : Int32)
  · refine lv_tableIn (tgt := 191) (off := 183) hx hb dX0_dateField_8 (by rw [c_13]; decide) (by rw [c_13]; decide) (by rw [c_13]; decide) (by decide) ?_
    refine lv_iload_n hx hb dX0_dateField_191 rfl (lv_at hl 0 rfl) ?_
    refine lv_i2l (v := ((xy S p0.toNatClampNeg).toInt64)) hx hb dX0_dateField_192 (by first | rfl | decide) ?_
    exact re_l hx hb hr hk dX0_dateField_193 (el (Eq.trans (if_neg c_1) (Eq.trans (if_neg c_2) (Eq.trans (if_neg c_3) (Eq.trans (if_neg c_4) (Eq.trans (if_neg c_5) (Eq.trans (if_neg c_6) (Eq.trans (if_neg c_7) (Eq.trans (if_neg c_8) (Eq.trans (if_neg c_9) (Eq.trans (if_neg c_10) (Eq.trans (if_neg c_11) (if_pos c_13)))))))))))))
  have nc_1 := lv_neT c_1 (a := 15) (by decide)
  have nc_2 := lv_neT c_2 (a := 16) (by decide)
  have nc_3 := lv_neT c_3 (a := 17) (by decide)
  have nc_4 := lv_neT c_4 (a := 18) (by decide)
  have nc_5 := lv_neT c_5 (a := 19) (by decide)
  have nc_6 := lv_neT c_6 (a := 20) (by decide)
  have nc_7 := lv_neT c_7 (a := 21) (by decide)
  have nc_8 := lv_neT c_8 (a := 22) (by decide)
  have nc_9 := lv_neT c_9 (a := 23) (by decide)
  have nc_10 := lv_neT c_10 (a := 24) (by decide)
  have nc_11 := lv_neT c_11 (a := 25) (by decide)
  have nc_13 := lv_neT c_13 (a := 26) (by decide)
  refine lv_tableOut (tgt := 194) hx hb dX0_dateField_8 (by omega) (by decide) ?_
  refine lv_iload_n hx hb dX0_dateField_194 rfl (lv_at hl 0 rfl) ?_
  refine lv_if_le (tgt := 202) hx hb dX0_dateField_195 (by decide) (fun c_14 => ?_) (fun c_14 => ?_)
  · refine lv_lconst (v := (0 : Int64)) hx hb dX0_dateField_202 ql_0 ?_
    exact re_l hx hb hr hk dX0_dateField_203 (el (Eq.trans (if_neg c_1) (Eq.trans (if_neg c_2) (Eq.trans (if_neg c_3) (Eq.trans (if_neg c_4) (Eq.trans (if_neg c_5) (Eq.trans (if_neg c_6) (Eq.trans (if_neg c_7) (Eq.trans (if_neg c_8) (Eq.trans (if_neg c_9) (Eq.trans (if_neg c_10) (Eq.trans (if_neg c_11) (Eq.trans (if_neg c_13) (if_pos c_14))))))))))))))
  · refine lv_lconst (v := (1 : Int64)) hx hb dX0_dateField_198 ql_1 ?_
    refine lv_goto (tgt := 203) hx hb dX0_dateField_199 (by decide) ?_
    exact re_l hx hb hr hk dX0_dateField_203 (el (Eq.trans (if_neg c_1) (Eq.trans (if_neg c_2) (Eq.trans (if_neg c_3) (Eq.trans (if_neg c_4) (Eq.trans (if_neg c_5) (Eq.trans (if_neg c_6) (Eq.trans (if_neg c_7) (Eq.trans (if_neg c_8) (Eq.trans (if_neg c_9) (Eq.trans (if_neg c_10) (Eq.trans (if_neg c_11) (Eq.trans (if_neg c_13) (if_neg c_14))))))))))))))

set_option maxRecDepth 100000 in
set_option maxHeartbeats 4000000 in
theorem c_X2_dayNow (l : Launch) (G : GT) (b : Nat → Nat) (T : SM) (p0 : Int32) (h0 : vp_in p0 6) (hT : MO T) : RO l G yX2_dayNow cX2_dayNow 2 (some .long) 5 [.ref (b 0), .int p0] (wM G b T) (some (.long (fX2_dayNow T p0))) := by
  refine RO.ofW (own := RX2) rfl (plainFor_of_name pnN_RX2) (Nat.le_of_ble_eq_true rfl) ?_
  intro p e s m below meth c C hr hk hE hP ls hl
  have hx := C.1
  have hb := C.2.1
  have hown := C.2.2.2.1
  have hw := C.2.2.2.2
  have hl : lv_has ls 2 [(0, .ref (b 0)), (1, .int p0)] := hl
  refine lv_aload_n hx hb dX2_dayNow_0 rfl (lv_at hl 0 rfl) ?_
  refine va_get (D := gD G) (cl := vwCl) (tys := gT G) (ci := 4) (v := .ref (b 1)) (C := RX2) (T := TX2) (N := 12) hx hb hw inB_X2 hown hE.K hP 0 rfl rfl 1 (by decide) (hw _ bw1164) (fun _ h9 => h9) rfl dX2_dayNow_1 ?_
  refine lv_iload_n hx hb dX2_dayNow_4 rfl (lv_at hl 1 rfl) ?_
  refine va_iald (tys := gT G) hx hb hE.K hP 1 0 rfl rfl h0 dX2_dayNow_5 ?_
  refine lv_aload_n hx hb dX2_dayNow_6 rfl (lv_at hl 0 rfl) ?_
  refine va_get (D := gD G) (cl := vwCl) (tys := gT G) (ci := 4) (v := .ref (b 2)) (C := RX2) (T := TX2) (N := 12) hx hb hw inB_X2 hown hE.K hP 0 rfl rfl 2 (by decide) (hw _ bw1165) (fun _ h9 => h9) rfl dX2_dayNow_7 ?_
  refine lv_iload_n hx hb dX2_dayNow_10 rfl (lv_at hl 1 rfl) ?_
  refine va_iald (tys := gT G) hx hb hE.K hP 2 0 rfl rfl h0 dX2_dayNow_11 ?_
  refine lv_aload_n hx hb dX2_dayNow_12 rfl (lv_at hl 0 rfl) ?_
  refine va_get (D := gD G) (cl := vwCl) (tys := gT G) (ci := 4) (v := .ref (b 3)) (C := RX2) (T := TX2) (N := 12) hx hb hw inB_X2 hown hE.K hP 0 rfl rfl 3 (by decide) (hw _ bw1166) (fun _ h9 => h9) rfl dX2_dayNow_13 ?_
  refine lv_iload_n hx hb dX2_dayNow_16 rfl (lv_at hl 1 rfl) ?_
  refine va_iald (tys := gT G) hx hb hE.K hP 3 0 rfl rfl h0 dX2_dayNow_17 ?_
  refine rcSl (as := [.int (my T p0.toNatClampNeg), .int (mm T p0.toNatClampNeg), .int (md T p0.toNatClampNeg)]) (rest := []) C (c_X2_dayOf l G (my T p0.toNatClampNeg) (mm T p0.toNatClampNeg) (md T p0.toNatClampNeg) (MO.at hT h0)) F_X2_dayOf rfl bw1251 bw1252 hE vpn hl.1 dX2_dayNow_18 ⟨Nat.le_of_ble_eq_true rfl, Nat.le_of_ble_eq_true rfl⟩ rfl (Nat.le_of_ble_eq_true rfl) ⟨Nat.zero_le _, Nat.zero_le _⟩ ?_
  exact re_l hx hb hr hk dX2_dayNow_21 (el rfl)

set_option maxRecDepth 100000 in
set_option maxHeartbeats 4000000 in
theorem c_X2_weekDayNow (l : Launch) (G : GT) (b : Nat → Nat) (T : SM) (p0 : Int32) (h0 : vp_in p0 6) (hT : MO T) : RO l G yX2_weekDayNow cX2_weekDayNow 2 (some .int) 6 [.ref (b 0), .int p0] (wM G b T) (some (.int (fX2_weekDayNow T p0))) := by
  refine RO.ofW (own := RX2) rfl (plainFor_of_name pnN_RX2) (Nat.le_of_ble_eq_true rfl) ?_
  intro p e s m below meth c C hr hk hE hP ls hl
  have hx := C.1
  have hb := C.2.1
  have hown := C.2.2.2.1
  have hw := C.2.2.2.2
  have hl : lv_has ls 2 [(0, .ref (b 0)), (1, .int p0)] := hl
  refine lv_aload_n hx hb dX2_weekDayNow_0 rfl (lv_at hl 0 rfl) ?_
  refine lv_iload_n hx hb dX2_weekDayNow_1 rfl (lv_at hl 1 rfl) ?_
  refine rcVl (as := [.int p0]) (rest := []) (cl := RX2) C (c_X2_dayNow l G b T p0 h0 hT) F_X2_dayNow rfl bw1247 bw1249 bw38 hE hP (rv4 hE.K hP (q0 := 0) rfl) hl.1 dX2_weekDayNow_2 ⟨Nat.le_of_ble_eq_true rfl, Nat.le_of_ble_eq_true rfl⟩ rfl (Nat.le_of_ble_eq_true rfl) ⟨Nat.zero_le _, Nat.zero_le _⟩ ?_
  refine rcSi (as := [.long (fX2_dayNow T p0)]) (rest := []) C (c_X2_weekDay l G (fX2_dayNow T p0)) F_X2_weekDay rfl bw1271 bw1272 hE vpn hl.1 dX2_weekDayNow_5 ⟨Nat.le_of_ble_eq_true rfl, Nat.le_of_ble_eq_true rfl⟩ rfl (Nat.le_of_ble_eq_true rfl) ⟨Nat.zero_le _, Nat.zero_le _⟩ ?_
  exact re_i hx hb hr hk dX2_weekDayNow_8 (ei rfl)

set_option maxRecDepth 100000 in
set_option maxHeartbeats 4000000 in
theorem c_X2_handTime (l : Launch) (G : GT) (b : Nat → Nat) (T : SM) (p0 : Int32) : RO l G yX2_handTime cX2_handTime 4 (some .long) 1 [.ref (b 0), .int p0] (wM G b T) (some (.long (fX2_handTime T p0))) := by
  refine RO.ofW (own := RX2) rfl (plainFor_of_name pnN_RX2) (Nat.le_of_ble_eq_true rfl) ?_
  intro p e s m below meth c C hr hk hE hP ls hl
  have hx := C.1
  have hb := C.2.1
  have hown := C.2.2.2.1
  have hw := C.2.2.2.2
  have hl : lv_has ls 4 [(0, .ref (b 0)), (1, .int p0)] := hl
  refine lv_ldc2 (v := (60 : Int64)) hx hb hown (hw _ bw1237) dX2_handTime_0 ?_
  refine lv_bipush (v := (60 : Int32)) hx hb dX2_handTime_3 qb_60 ?_
  refine lv_aload_n hx hb dX2_handTime_5 rfl (lv_at hl 0 rfl) ?_
  refine va_get (D := gD G) (cl := vwCl) (tys := gT G) (ci := 4) (v := .int (mi T 0)) (C := RX2) (T := TX2) (N := 12) hx hb hw inB_X2 hown hE.K hP 0 rfl rfl 5 (by decide) (hw _ bw1168) (fun _ h9 => h9) rfl dX2_handTime_6 ?_
  refine lv_imul hx hb dX2_handTime_9 ?_
  refine lv_aload_n hx hb dX2_handTime_10 rfl (lv_at hl 0 rfl) ?_
  refine va_get (D := gD G) (cl := vwCl) (tys := gT G) (ci := 4) (v := .int (mi T 1)) (C := RX2) (T := TX2) (N := 12) hx hb hw inB_X2 hown hE.K hP 0 rfl rfl 6 (by decide) (hw _ bw1169) (fun _ h9 => h9) rfl dX2_handTime_11 ?_
  refine lv_iadd hx hb dX2_handTime_14 ?_
  refine lv_i2l (v := ((((60 : Int32) * (mi T 0)) + (mi T 1)).toInt64)) hx hb dX2_handTime_15 (by first | rfl | decide) ?_
  refine lv_lmul hx hb dX2_handTime_16 ?_
  refine lv_ldc2 (v := (1000000000 : Int64)) hx hb hown (hw _ bw1238) dX2_handTime_17 ?_
  refine lv_lmul hx hb dX2_handTime_20 ?_
  refine lv_lstore_n (lv' := [(2, .long (((60 : Int64) * ((((60 : Int32) * (mi T 0)) + (mi T 1)).toInt64)) * (1000000000 : Int64))), (0, .ref (b 0)), (1, .int p0)]) hx hb dX2_handTime_21 rfl hl (Nat.le_of_ble_eq_true rfl) rfl (fun ls hl => ?_)
  refine lv_iload_n hx hb dX2_handTime_22 rfl (lv_at hl 2 rfl) ?_
  refine lv_if_le (tgt := 38) hx hb dX2_handTime_23 (by decide) (fun c_1 => ?_) (fun c_1 => ?_)
  · refine lv_iload_n hx hb dX2_handTime_38 rfl (lv_at hl 2 rfl) ?_
    refine lv_iconst (v := (1 : Int32)) hx hb dX2_handTime_39 qi_1 ?_
    refine lv_icmp_le (tgt := 53) hx hb dX2_handTime_40 (by decide) (fun c_2 => ?_) (fun c_2 => ?_)
    · refine lv_lload_n hx hb dX2_handTime_53 rfl (lv_at hl 0 rfl) ?_
      exact re_l hx hb hr hk dX2_handTime_54 (el (Eq.trans (if_pos c_1) (if_pos c_2)))
    · refine lv_lload_n hx hb dX2_handTime_43 rfl (lv_at hl 0 rfl) ?_
      refine lv_aload_n hx hb dX2_handTime_44 rfl (lv_at hl 1 rfl) ?_
      refine va_get (D := gD G) (cl := vwCl) (tys := gT G) (ci := 4) (v := .int (mi T 3)) (C := RX2) (T := TX2) (N := 12) hx hb hw inB_X2 hown hE.K hP 0 rfl rfl 8 (by decide) (hw _ bw1171) (fun _ h9 => h9) rfl dX2_handTime_45 ?_
      refine lv_i2l (v := ((mi T 3).toInt64)) hx hb dX2_handTime_48 (by first | rfl | decide) ?_
      refine lv_ladd hx hb dX2_handTime_49 ?_
      refine lv_goto (tgt := 54) hx hb dX2_handTime_50 (by decide) ?_
      exact re_l hx hb hr hk dX2_handTime_54 (el (Eq.trans (if_pos c_1) (if_neg c_2)))
  · refine lv_lload_n hx hb dX2_handTime_26 rfl (lv_at hl 0 rfl) ?_
    refine lv_aload_n hx hb dX2_handTime_27 rfl (lv_at hl 1 rfl) ?_
    refine va_get (D := gD G) (cl := vwCl) (tys := gT G) (ci := 4) (v := .int (mi T 2)) (C := RX2) (T := TX2) (N := 12) hx hb hw inB_X2 hown hE.K hP 0 rfl rfl 7 (by decide) (hw _ bw1170) (fun _ h9 => h9) rfl dX2_handTime_28 ?_
    refine lv_i2l (v := ((mi T 2).toInt64)) hx hb dX2_handTime_31 (by first | rfl | decide) ?_
    refine lv_ldc2 (v := (1000000000 : Int64)) hx hb hown (hw _ bw1238) dX2_handTime_32 ?_
    refine lv_lmul hx hb dX2_handTime_35 ?_
    refine lv_ladd hx hb dX2_handTime_36 ?_
    refine lv_lstore_n (lv' := [(2, .long ((((60 : Int64) * ((((60 : Int32) * (mi T 0)) + (mi T 1)).toInt64)) * (1000000000 : Int64)) + (((mi T 2).toInt64) * (1000000000 : Int64)))), (0, .ref (b 0)), (1, .int p0)]) hx hb dX2_handTime_37 rfl hl (Nat.le_of_ble_eq_true rfl) rfl (fun ls hl => ?_)
    refine lv_iload_n hx hb dX2_handTime_38 rfl (lv_at hl 2 rfl) ?_
    refine lv_iconst (v := (1 : Int32)) hx hb dX2_handTime_39 qi_1 ?_
    refine lv_icmp_le (tgt := 53) hx hb dX2_handTime_40 (by decide) (fun c_3 => ?_) (fun c_3 => ?_)
    · refine lv_lload_n hx hb dX2_handTime_53 rfl (lv_at hl 0 rfl) ?_
      exact re_l hx hb hr hk dX2_handTime_54 (el (Eq.trans (if_neg c_1) (if_pos c_3)))
    · refine lv_lload_n hx hb dX2_handTime_43 rfl (lv_at hl 0 rfl) ?_
      refine lv_aload_n hx hb dX2_handTime_44 rfl (lv_at hl 1 rfl) ?_
      refine va_get (D := gD G) (cl := vwCl) (tys := gT G) (ci := 4) (v := .int (mi T 3)) (C := RX2) (T := TX2) (N := 12) hx hb hw inB_X2 hown hE.K hP 0 rfl rfl 8 (by decide) (hw _ bw1171) (fun _ h9 => h9) rfl dX2_handTime_45 ?_
      refine lv_i2l (v := ((mi T 3).toInt64)) hx hb dX2_handTime_48 (by first | rfl | decide) ?_
      refine lv_ladd hx hb dX2_handTime_49 ?_
      refine lv_goto (tgt := 54) hx hb dX2_handTime_50 (by decide) ?_
      exact re_l hx hb hr hk dX2_handTime_54 (el (Eq.trans (if_neg c_1) (if_neg c_3)))

set_option maxRecDepth 100000 in
set_option maxHeartbeats 4000000 in
theorem c_X2_inYearNow (l : Launch) (G : GT) (b : Nat → Nat) (T : SM) (p0 : Int32) (h0 : vp_in p0 6) (hT : MO T) : RO l G yX2_inYearNow cX2_inYearNow 2 (some .int) 4 [.ref (b 0), .int p0] (wM G b T) (some (.int (fX2_inYearNow T p0))) := by
  refine RO.ofW (own := RX2) rfl (plainFor_of_name pnN_RX2) (Nat.le_of_ble_eq_true rfl) ?_
  intro p e s m below meth c C hr hk hE hP ls hl
  have hx := C.1
  have hb := C.2.1
  have hown := C.2.2.2.1
  have hw := C.2.2.2.2
  have hl : lv_has ls 2 [(0, .ref (b 0)), (1, .int p0)] := hl
  refine lv_aload_n hx hb dX2_inYearNow_0 rfl (lv_at hl 0 rfl) ?_
  refine va_get (D := gD G) (cl := vwCl) (tys := gT G) (ci := 4) (v := .ref (b 1)) (C := RX2) (T := TX2) (N := 12) hx hb hw inB_X2 hown hE.K hP 0 rfl rfl 1 (by decide) (hw _ bw1164) (fun _ h9 => h9) rfl dX2_inYearNow_1 ?_
  refine lv_iload_n hx hb dX2_inYearNow_4 rfl (lv_at hl 1 rfl) ?_
  refine va_iald (tys := gT G) hx hb hE.K hP 1 0 rfl rfl h0 dX2_inYearNow_5 ?_
  refine lv_aload_n hx hb dX2_inYearNow_6 rfl (lv_at hl 0 rfl) ?_
  refine va_get (D := gD G) (cl := vwCl) (tys := gT G) (ci := 4) (v := .ref (b 2)) (C := RX2) (T := TX2) (N := 12) hx hb hw inB_X2 hown hE.K hP 0 rfl rfl 2 (by decide) (hw _ bw1165) (fun _ h9 => h9) rfl dX2_inYearNow_7 ?_
  refine lv_iload_n hx hb dX2_inYearNow_10 rfl (lv_at hl 1 rfl) ?_
  refine va_iald (tys := gT G) hx hb hE.K hP 2 0 rfl rfl h0 dX2_inYearNow_11 ?_
  refine lv_aload_n hx hb dX2_inYearNow_12 rfl (lv_at hl 0 rfl) ?_
  refine va_get (D := gD G) (cl := vwCl) (tys := gT G) (ci := 4) (v := .ref (b 3)) (C := RX2) (T := TX2) (N := 12) hx hb hw inB_X2 hown hE.K hP 0 rfl rfl 3 (by decide) (hw _ bw1166) (fun _ h9 => h9) rfl dX2_inYearNow_13 ?_
  refine lv_iload_n hx hb dX2_inYearNow_16 rfl (lv_at hl 1 rfl) ?_
  refine va_iald (tys := gT G) hx hb hE.K hP 3 0 rfl rfl h0 dX2_inYearNow_17 ?_
  refine rcSi (as := [.int (my T p0.toNatClampNeg), .int (mm T p0.toNatClampNeg), .int (md T p0.toNatClampNeg)]) (rest := []) C (c_X2_inYear l G (my T p0.toNatClampNeg) (mm T p0.toNatClampNeg) (md T p0.toNatClampNeg) (MO.at hT h0)) F_X2_inYear rfl bw1268 bw1269 hE vpn hl.1 dX2_inYearNow_18 ⟨Nat.le_of_ble_eq_true rfl, Nat.le_of_ble_eq_true rfl⟩ rfl (Nat.le_of_ble_eq_true rfl) ⟨Nat.zero_le _, Nat.zero_le _⟩ ?_
  exact re_i hx hb hr hk dX2_inYearNow_21 (ei rfl)

set_option maxRecDepth 100000 in
set_option maxHeartbeats 4000000 in
theorem c_X2_part (l : Launch) (G : GT) (b : Nat → Nat) (T : SM) (p0 : Int32) (p1 : Int64) (p2 : Int64) (h0 : vp_in p0 6) (n1 : ¬ p1 = 0) (n2 : ¬ p2 = 0) : RO l G yX2_part cX2_part 6 (some .int) 1 [.ref (b 0), .int p0, .long p1, .long p2] (wM G b T) (some (.int (fX2_part T p0 p1 p2))) := by
  refine RO.ofW (own := RX2) rfl (plainFor_of_name pnN_RX2) (Nat.le_of_ble_eq_true rfl) ?_
  intro p e s m below meth c C hr hk hE hP ls hl
  have hx := C.1
  have hb := C.2.1
  have hown := C.2.2.2.1
  have hw := C.2.2.2.2
  have hl : lv_has ls 6 [(0, .ref (b 0)), (1, .int p0), (2, .long p1), (4, .long p2)] := hl
  refine lv_aload_n hx hb dX2_part_0 rfl (lv_at hl 0 rfl) ?_
  refine va_get (D := gD G) (cl := vwCl) (tys := gT G) (ci := 4) (v := .ref (b 4)) (C := RX2) (T := TX2) (N := 12) hx hb hw inB_X2 hown hE.K hP 0 rfl rfl 4 (by decide) (hw _ bw1167) (fun _ h9 => h9) rfl dX2_part_1 ?_
  refine lv_iload_n hx hb dX2_part_4 rfl (lv_at hl 1 rfl) ?_
  refine va_lald (tys := gT G) hx hb hE.K hP 4 1 rfl rfl h0 dX2_part_5 ?_
  refine lv_lload_n hx hb dX2_part_6 rfl (lv_at hl 2 rfl) ?_
  refine lv_ldiv hx hb dX2_part_7 n1 ?_
  refine lv_lload hx hb dX2_part_8 (lv_at hl 3 rfl) ?_
  refine lv_lrem hx hb dX2_part_10 n2 ?_
  refine lv_l2i (v := ((((mt T p0.toNatClampNeg) / p1) - ((mt T p0.toNatClampNeg) / p1) / p2 * p2).toInt32)) hx hb dX2_part_11 (by first | rfl | decide) ?_
  exact re_i hx hb hr hk dX2_part_12 (ei rfl)

set_option maxRecDepth 100000 in
set_option maxHeartbeats 4000000 in
theorem c_X2_ofTime (l : Launch) (G : GT) (b : Nat → Nat) (T : SM) (p0 : Int32) (p1 : Int32) (h0 : vp_in p0 6) : RO l G yX2_ofTime cX2_ofTime 4 (some .long) 2 [.ref (b 0), .int p0, .int p1] (wM G b T) (some (.long (fX2_ofTime T p0 p1))) := by
  refine RO.ofW (own := RX2) rfl (plainFor_of_name pnN_RX2) (Nat.le_of_ble_eq_true rfl) ?_
  intro p e s m below meth c C hr hk hE hP ls hl
  have hx := C.1
  have hb := C.2.1
  have hown := C.2.2.2.1
  have hw := C.2.2.2.2
  have hl : lv_has ls 4 [(0, .ref (b 0)), (1, .int p0), (2, .int p1)] := hl
  refine lv_aload_n hx hb dX2_ofTime_0 rfl (lv_at hl 0 rfl) ?_
  refine lv_iload_n hx hb dX2_ofTime_1 rfl (lv_at hl 1 rfl) ?_
  refine lv_iconst (v := (5 : Int32)) hx hb dX2_ofTime_2 qi_5 ?_
  refine rcSl (as := [.int (5 : Int32)]) (rest := [.int p0, .ref (b 0)]) C (c_X2_nanosOf l G (5 : Int32)) F_X2_nanosOf rfl bw1354 bw1355 hE vpn hl.1 dX2_ofTime_3 ⟨Nat.le_of_ble_eq_true rfl, Nat.le_of_ble_eq_true rfl⟩ rfl (Nat.le_of_ble_eq_true rfl) ⟨Nat.zero_le _, Nat.zero_le _⟩ ?_
  refine lv_ldc2 (v := (24 : Int64)) hx hb hown (hw _ bw1332) dX2_ofTime_6 ?_
  refine rcVi (as := [.int p0, .long (fX2_nanosOf (5 : Int32)), .long (24 : Int64)]) (rest := []) (cl := RX2) C (c_X2_part l G b T p0 (fX2_nanosOf (5 : Int32)) (24 : Int64) h0 (nz_nanosOf (5 : Int32)) (by decide)) F_X2_part rfl bw1476 bw1478 bw45 hE hP (rv4 hE.K hP (q0 := 0) rfl) hl.1 dX2_ofTime_9 ⟨Nat.le_of_ble_eq_true rfl, Nat.le_of_ble_eq_true rfl⟩ rfl (Nat.le_of_ble_eq_true rfl) ⟨Nat.zero_le _, Nat.zero_le _⟩ ?_
  refine lv_istore_n (lv' := [(3, .int (fX2_part T p0 (fX2_nanosOf (5 : Int32)) (24 : Int64))), (0, .ref (b 0)), (1, .int p0), (2, .int p1)]) hx hb dX2_ofTime_12 rfl hl (Nat.le_of_ble_eq_true rfl) rfl (fun ls hl => ?_)
  refine lv_iload_n hx hb dX2_ofTime_13 rfl (lv_at hl 3 rfl) ?_
  by_cases c_1 : p1 = (0 : Int32)
  · refine lv_tableIn (tgt := 84) (off := 70) hx hb dX2_ofTime_14 (by rw [c_1]; decide) (by rw [c_1]; decide) (by rw [c_1]; decide) (by decide) ?_
    refine lv_aload_n hx hb dX2_ofTime_84 rfl (lv_at hl 1 rfl) ?_
    refine va_get (D := gD G) (cl := vwCl) (tys := gT G) (ci := 4) (v := .ref (b 4)) (C := RX2) (T := TX2) (N := 12) hx hb hw inB_X2 hown hE.K hP 0 rfl rfl 4 (by decide) (hw _ bw1167) (fun _ h9 => h9) rfl dX2_ofTime_85 ?_
    refine lv_iload_n hx hb dX2_ofTime_88 rfl (lv_at hl 2 rfl) ?_
    refine va_lald (tys := gT G) hx hb hE.K hP 4 1 rfl rfl h0 dX2_ofTime_89 ?_
    refine lv_ldc2 (v := (1000000000 : Int64)) hx hb hown (hw _ bw1238) dX2_ofTime_90 ?_
    refine lv_lrem hx hb dX2_ofTime_93 (by decide) ?_
    exact re_l hx hb hr hk dX2_ofTime_94 (el (if_pos c_1))
  by_cases c_2 : p1 = (1 : Int32)
  · refine lv_tableIn (tgt := 95) (off := 81) hx hb dX2_ofTime_14 (by rw [c_2]; decide) (by rw [c_2]; decide) (by rw [c_2]; decide) (by decide) ?_
    refine lv_aload_n hx hb dX2_ofTime_95 rfl (lv_at hl 1 rfl) ?_
    refine va_get (D := gD G) (cl := vwCl) (tys := gT G) (ci := 4) (v := .ref (b 4)) (C := RX2) (T := TX2) (N := 12) hx hb hw inB_X2 hown hE.K hP 0 rfl rfl 4 (by decide) (hw _ bw1167) (fun _ h9 => h9) rfl dX2_ofTime_96 ?_
    refine lv_iload_n hx hb dX2_ofTime_99 rfl (lv_at hl 2 rfl) ?_
    refine va_lald (tys := gT G) hx hb hE.K hP 4 1 rfl rfl h0 dX2_ofTime_100 ?_
    exact re_l hx hb hr hk dX2_ofTime_101 (el (Eq.trans (if_neg c_1) (if_pos c_2)))
  by_cases c_3 : p1 = (2 : Int32)
  · refine lv_tableIn (tgt := 102) (off := 88) hx hb dX2_ofTime_14 (by rw [c_3]; decide) (by rw [c_3]; decide) (by rw [c_3]; decide) (by decide) ?_
    refine lv_aload_n hx hb dX2_ofTime_102 rfl (lv_at hl 1 rfl) ?_
    refine va_get (D := gD G) (cl := vwCl) (tys := gT G) (ci := 4) (v := .ref (b 4)) (C := RX2) (T := TX2) (N := 12) hx hb hw inB_X2 hown hE.K hP 0 rfl rfl 4 (by decide) (hw _ bw1167) (fun _ h9 => h9) rfl dX2_ofTime_103 ?_
    refine lv_iload_n hx hb dX2_ofTime_106 rfl (lv_at hl 2 rfl) ?_
    refine va_lald (tys := gT G) hx hb hE.K hP 4 1 rfl rfl h0 dX2_ofTime_107 ?_
    refine lv_ldc2 (v := (1000000000 : Int64)) hx hb hown (hw _ bw1238) dX2_ofTime_108 ?_
    refine lv_lrem hx hb dX2_ofTime_111 (by decide) ?_
    refine lv_ldc2 (v := (1000 : Int64)) hx hb hown (hw _ bw1357) dX2_ofTime_112 ?_
    refine lv_ldiv hx hb dX2_ofTime_115 (by decide) ?_
    exact re_l hx hb hr hk dX2_ofTime_116 (el (Eq.trans (if_neg c_1) (Eq.trans (if_neg c_2) (if_pos c_3))))
  by_cases c_4 : p1 = (3 : Int32)
  · refine lv_tableIn (tgt := 117) (off := 103) hx hb dX2_ofTime_14 (by rw [c_4]; decide) (by rw [c_4]; decide) (by rw [c_4]; decide) (by decide) ?_
    refine lv_aload_n hx hb dX2_ofTime_117 rfl (lv_at hl 1 rfl) ?_
    refine va_get (D := gD G) (cl := vwCl) (tys := gT G) (ci := 4) (v := .ref (b 4)) (C := RX2) (T := TX2) (N := 12) hx hb hw inB_X2 hown hE.K hP 0 rfl rfl 4 (by decide) (hw _ bw1167) (fun _ h9 => h9) rfl dX2_ofTime_118 ?_
    refine lv_iload_n hx hb dX2_ofTime_121 rfl (lv_at hl 2 rfl) ?_
    refine va_lald (tys := gT G) hx hb hE.K hP 4 1 rfl rfl h0 dX2_ofTime_122 ?_
    refine lv_ldc2 (v := (1000 : Int64)) hx hb hown (hw _ bw1357) dX2_ofTime_123 ?_
    refine lv_ldiv hx hb dX2_ofTime_126 (by decide) ?_
    exact re_l hx hb hr hk dX2_ofTime_127 (el (Eq.trans (if_neg c_1) (Eq.trans (if_neg c_2) (Eq.trans (if_neg c_3) (if_pos c_4)))))
  by_cases c_5 : p1 = (4 : Int32)
  · refine lv_tableIn (tgt := 128) (off := 114) hx hb dX2_ofTime_14 (by rw [c_5]; decide) (by rw [c_5]; decide) (by rw [c_5]; decide) (by decide) ?_
    refine lv_aload_n hx hb dX2_ofTime_128 rfl (lv_at hl 1 rfl) ?_
    refine va_get (D := gD G) (cl := vwCl) (tys := gT G) (ci := 4) (v := .ref (b 4)) (C := RX2) (T := TX2) (N := 12) hx hb hw inB_X2 hown hE.K hP 0 rfl rfl 4 (by decide) (hw _ bw1167) (fun _ h9 => h9) rfl dX2_ofTime_129 ?_
    refine lv_iload_n hx hb dX2_ofTime_132 rfl (lv_at hl 2 rfl) ?_
    refine va_lald (tys := gT G) hx hb hE.K hP 4 1 rfl rfl h0 dX2_ofTime_133 ?_
    refine lv_ldc2 (v := (1000000000 : Int64)) hx hb hown (hw _ bw1238) dX2_ofTime_134 ?_
    refine lv_lrem hx hb dX2_ofTime_137 (by decide) ?_
    refine lv_ldc2 (v := (1000000 : Int64)) hx hb hown (hw _ bw1358) dX2_ofTime_138 ?_
    refine lv_ldiv hx hb dX2_ofTime_141 (by decide) ?_
    exact re_l hx hb hr hk dX2_ofTime_142 (el (Eq.trans (if_neg c_1) (Eq.trans (if_neg c_2) (Eq.trans (if_neg c_3) (Eq.trans (if_neg c_4) (if_pos c_5))))))
  by_cases c_6 : p1 = (5 : Int32)
  · refine lv_tableIn (tgt := 143) (off := 129) hx hb dX2_ofTime_14 (by rw [c_6]; decide) (by rw [c_6]; decide) (by rw [c_6]; decide) (by decide) ?_
    refine lv_aload_n hx hb dX2_ofTime_143 rfl (lv_at hl 1 rfl) ?_
    refine va_get (D := gD G) (cl := vwCl) (tys := gT G) (ci := 4) (v := .ref (b 4)) (C := RX2) (T := TX2) (N := 12) hx hb hw inB_X2 hown hE.K hP 0 rfl rfl 4 (by decide) (hw _ bw1167) (fun _ h9 => h9) rfl dX2_ofTime_144 ?_
    refine lv_iload_n hx hb dX2_ofTime_147 rfl (lv_at hl 2 rfl) ?_
    refine va_lald (tys := gT G) hx hb hE.K hP 4 1 rfl rfl h0 dX2_ofTime_148 ?_
    refine lv_ldc2 (v := (1000000 : Int64)) hx hb hown (hw _ bw1358) dX2_ofTime_149 ?_
    refine lv_ldiv hx hb dX2_ofTime_152 (by decide) ?_
    exact re_l hx hb hr hk dX2_ofTime_153 (el (Eq.trans (if_neg c_1) (Eq.trans (if_neg c_2) (Eq.trans (if_neg c_3) (Eq.trans (if_neg c_4) (Eq.trans (if_neg c_5) (if_pos c_6)))))))
  by_cases c_7 : p1 = (6 : Int32)
  · refine lv_tableIn (tgt := 154) (off := 140) hx hb dX2_ofTime_14 (by rw [c_7]; decide) (by rw [c_7]; decide) (by rw [c_7]; decide) (by decide) ?_
    refine lv_aload_n hx hb dX2_ofTime_154 rfl (lv_at hl 1 rfl) ?_
    refine lv_iload_n hx hb dX2_ofTime_155 rfl (lv_at hl 2 rfl) ?_
    refine lv_ldc2 (v := (1000000000 : Int64)) hx hb hown (hw _ bw1238) dX2_ofTime_156 ?_
    refine lv_ldc2 (v := (60 : Int64)) hx hb hown (hw _ bw1237) dX2_ofTime_159 ?_
    refine rcVi (as := [.int p0, .long (1000000000 : Int64), .long (60 : Int64)]) (rest := []) (cl := RX2) C (c_X2_part l G b T p0 (1000000000 : Int64) (60 : Int64) h0 (by decide) (by decide)) F_X2_part rfl bw1476 bw1478 bw45 hE hP (rv4 hE.K hP (q0 := 0) rfl) hl.1 dX2_ofTime_162 ⟨Nat.le_of_ble_eq_true rfl, Nat.le_of_ble_eq_true rfl⟩ rfl (Nat.le_of_ble_eq_true rfl) ⟨Nat.zero_le _, Nat.zero_le _⟩ ?_
    refine lv_i2l (v := ((fX2_part T p0 (1000000000 : Int64) (60 : Int64)).toInt64)) hx hb dX2_ofTime_165 (by first | rfl | decide) ?_
    exact re_l hx hb hr hk dX2_ofTime_166 (el (Eq.trans (if_neg c_1) (Eq.trans (if_neg c_2) (Eq.trans (if_neg c_3) (Eq.trans (if_neg c_4) (Eq.trans (if_neg c_5) (Eq.trans (if_neg c_6) (if_pos c_7))))))))
  by_cases c_8 : p1 = (7 : Int32)
  · refine lv_tableIn (tgt := 167) (off := 153) hx hb dX2_ofTime_14 (by rw [c_8]; decide) (by rw [c_8]; decide) (by rw [c_8]; decide) (by decide) ?_
    refine lv_aload_n hx hb dX2_ofTime_167 rfl (lv_at hl 1 rfl) ?_
    refine va_get (D := gD G) (cl := vwCl) (tys := gT G) (ci := 4) (v := .ref (b 4)) (C := RX2) (T := TX2) (N := 12) hx hb hw inB_X2 hown hE.K hP 0 rfl rfl 4 (by decide) (hw _ bw1167) (fun _ h9 => h9) rfl dX2_ofTime_168 ?_
    refine lv_iload_n hx hb dX2_ofTime_171 rfl (lv_at hl 2 rfl) ?_
    refine va_lald (tys := gT G) hx hb hE.K hP 4 1 rfl rfl h0 dX2_ofTime_172 ?_
    refine lv_ldc2 (v := (1000000000 : Int64)) hx hb hown (hw _ bw1238) dX2_ofTime_173 ?_
    refine lv_ldiv hx hb dX2_ofTime_176 (by decide) ?_
    exact re_l hx hb hr hk dX2_ofTime_177 (el (Eq.trans (if_neg c_1) (Eq.trans (if_neg c_2) (Eq.trans (if_neg c_3) (Eq.trans (if_neg c_4) (Eq.trans (if_neg c_5) (Eq.trans (if_neg c_6) (Eq.trans (if_neg c_7) (if_pos c_8)))))))))
  by_cases c_9 : p1 = (8 : Int32)
  · refine lv_tableIn (tgt := 178) (off := 164) hx hb dX2_ofTime_14 (by rw [c_9]; decide) (by rw [c_9]; decide) (by rw [c_9]; decide) (by decide) ?_
    refine lv_aload_n hx hb dX2_ofTime_178 rfl (lv_at hl 1 rfl) ?_
    refine lv_iload_n hx hb dX2_ofTime_179 rfl (lv_at hl 2 rfl) ?_
    refine lv_iconst (v := (4 : Int32)) hx hb dX2_ofTime_180 qi_4 ?_
    refine rcSl (as := [.int (4 : Int32)]) (rest := [.int p0, .ref (b 0)]) C (c_X2_nanosOf l G (4 : Int32)) F_X2_nanosOf rfl bw1354 bw1355 hE vpn hl.1 dX2_ofTime_181 ⟨Nat.le_of_ble_eq_true rfl, Nat.le_of_ble_eq_true rfl⟩ rfl (Nat.le_of_ble_eq_true rfl) ⟨Nat.zero_le _, Nat.zero_le _⟩ ?_
    refine lv_ldc2 (v := (60 : Int64)) hx hb hown (hw _ bw1237) dX2_ofTime_184 ?_
    refine rcVi (as := [.int p0, .long (fX2_nanosOf (4 : Int32)), .long (60 : Int64)]) (rest := []) (cl := RX2) C (c_X2_part l G b T p0 (fX2_nanosOf (4 : Int32)) (60 : Int64) h0 (nz_nanosOf (4 : Int32)) (by decide)) F_X2_part rfl bw1476 bw1478 bw45 hE hP (rv4 hE.K hP (q0 := 0) rfl) hl.1 dX2_ofTime_187 ⟨Nat.le_of_ble_eq_true rfl, Nat.le_of_ble_eq_true rfl⟩ rfl (Nat.le_of_ble_eq_true rfl) ⟨Nat.zero_le _, Nat.zero_le _⟩ ?_
    refine lv_i2l (v := ((fX2_part T p0 (fX2_nanosOf (4 : Int32)) (60 : Int64)).toInt64)) hx hb dX2_ofTime_190 (by first | rfl | decide) ?_
    exact re_l hx hb hr hk dX2_ofTime_191 (el (Eq.trans (if_neg c_1) (Eq.trans (if_neg c_2) (Eq.trans (if_neg c_3) (Eq.trans (if_neg c_4) (Eq.trans (if_neg c_5) (Eq.trans (if_neg c_6) (Eq.trans (if_neg c_7) (Eq.trans (if_neg c_8) (if_pos c_9))))))))))
  by_cases c_10 : p1 = (9 : Int32)
  · refine lv_tableIn (tgt := 192) (off := 178) hx hb dX2_ofTime_14 (by rw [c_10]; decide) (by rw [c_10]; decide) (by rw [c_10]; decide) (by decide) ?_
    refine lv_aload_n hx hb dX2_ofTime_192 rfl (lv_at hl 1 rfl) ?_
    refine va_get (D := gD G) (cl := vwCl) (tys := gT G) (ci := 4) (v := .ref (b 4)) (C := RX2) (T := TX2) (N := 12) hx hb hw inB_X2 hown hE.K hP 0 rfl rfl 4 (by decide) (hw _ bw1167) (fun _ h9 => h9) rfl dX2_ofTime_193 ?_
    refine lv_iload_n hx hb dX2_ofTime_196 rfl (lv_at hl 2 rfl) ?_
    refine va_lald (tys := gT G) hx hb hE.K hP 4 1 rfl rfl h0 dX2_ofTime_197 ?_
    refine lv_iconst (v := (4 : Int32)) hx hb dX2_ofTime_198 qi_4 ?_
    refine rcSl (as := [.int (4 : Int32)]) (rest := [.long (mt T p0.toNatClampNeg)]) C (c_X2_nanosOf l G (4 : Int32)) F_X2_nanosOf rfl bw1354 bw1355 hE vpn hl.1 dX2_ofTime_199 ⟨Nat.le_of_ble_eq_true rfl, Nat.le_of_ble_eq_true rfl⟩ rfl (Nat.le_of_ble_eq_true rfl) ⟨Nat.zero_le _, Nat.zero_le _⟩ ?_
    refine lv_ldiv hx hb dX2_ofTime_202 (nz_nanosOf (4 : Int32)) ?_
    exact re_l hx hb hr hk dX2_ofTime_203 (el (Eq.trans (if_neg c_1) (Eq.trans (if_neg c_2) (Eq.trans (if_neg c_3) (Eq.trans (if_neg c_4) (Eq.trans (if_neg c_5) (Eq.trans (if_neg c_6) (Eq.trans (if_neg c_7) (Eq.trans (if_neg c_8) (Eq.trans (if_neg c_9) (if_pos c_10)))))))))))
  by_cases c_11 : p1 = (10 : Int32)
  · refine lv_tableIn (tgt := 204) (off := 190) hx hb dX2_ofTime_14 (by rw [c_11]; decide) (by rw [c_11]; decide) (by rw [c_11]; decide) (by decide) ?_
    refine lv_iload_n hx hb dX2_ofTime_204 rfl (lv_at hl 0 rfl) ?_
    refine lv_bipush (v := (12 : Int32)) hx hb dX2_ofTime_205 qb_12 ?_
    refine lv_irem hx hb dX2_ofTime_207 (by decide) ?_
    refine lv_i2l (v := (((fX2_part T p0 (fX2_nanosOf (5 : Int32)) (24 : Int64)) - (fX2_part T p0 (fX2_nanosOf (5 : Int32)) (24 : Int64)) / (12 : Int32) * (12 : Int32)).toInt64)) hx hb dX2_ofTime_208 (by first | rfl | decide) ?_
    exact re_l hx hb hr hk dX2_ofTime_209 (el (Eq.trans (if_neg c_1) (Eq.trans (if_neg c_2) (Eq.trans (if_neg c_3) (Eq.trans (if_neg c_4) (Eq.trans (if_neg c_5) (Eq.trans (if_neg c_6) (Eq.trans (if_neg c_7) (Eq.trans (if_neg c_8) (Eq.trans (if_neg c_9) (Eq.trans (if_neg c_10) (if_pos c_11))))))))))))
  by_cases c_12 : p1 = (11 : Int32)
  · refine lv_tableIn (tgt := 210) (off := 196) hx hb dX2_ofTime_14 (by rw [c_12]; decide) (by rw [c_12]; decide) (by rw [c_12]; decide) (by decide) ?_
    refine lv_iload_n hx hb dX2_ofTime_210 rfl (lv_at hl 0 rfl) ?_
    refine lv_bipush (v := (12 : Int32)) hx hb dX2_ofTime_211 qb_12 ?_
    refine lv_irem hx hb dX2_ofTime_213 (by decide) ?_
    refine lv_if_ne (tgt := 223) hx hb dX2_ofTime_214 (by decide) (fun c_13 => ?_) (fun c_13 => ?_)
    · refine lv_iload_n hx hb dX2_ofTime_223 rfl (lv_at hl 0 rfl) ?_
      refine lv_bipush (v := (12 : Int32)) hx hb dX2_ofTime_224 qb_12 ?_
      refine lv_irem hx hb dX2_ofTime_226 (by decide) ?_
      refine lv_i2l (v := (((fX2_part T p0 (fX2_nanosOf (5 : Int32)) (24 : Int64)) - (fX2_part T p0 (fX2_nanosOf (5 : Int32)) (24 : Int64)) / (12 : Int32) * (12 : Int32)).toInt64)) hx hb dX2_ofTime_227 (by first | rfl | decide) ?_
      exact re_l hx hb hr hk dX2_ofTime_228 (el (Eq.trans (if_neg c_1) (Eq.trans (if_neg c_2) (Eq.trans (if_neg c_3) (Eq.trans (if_neg c_4) (Eq.trans (if_neg c_5) (Eq.trans (if_neg c_6) (Eq.trans (if_neg c_7) (Eq.trans (if_neg c_8) (Eq.trans (if_neg c_9) (Eq.trans (if_neg c_10) (Eq.trans (if_neg c_11) (Eq.trans (if_pos c_12) (if_neg c_13))))))))))))))
    · refine lv_ldc2 (v := (12 : Int64)) hx hb hown (hw _ bw1368) dX2_ofTime_217 ?_
      refine lv_goto (tgt := 228) hx hb dX2_ofTime_220 (by decide) ?_
      exact re_l hx hb hr hk dX2_ofTime_228 (el (Eq.trans (if_neg c_1) (Eq.trans (if_neg c_2) (Eq.trans (if_neg c_3) (Eq.trans (if_neg c_4) (Eq.trans (if_neg c_5) (Eq.trans (if_neg c_6) (Eq.trans (if_neg c_7) (Eq.trans (if_neg c_8) (Eq.trans (if_neg c_9) (Eq.trans (if_neg c_10) (Eq.trans (if_neg c_11) (Eq.trans (if_pos c_12) (if_pos c_13))))))))))))))
  by_cases c_14 : p1 = (12 : Int32)
  · refine lv_tableIn (tgt := 229) (off := 215) hx hb dX2_ofTime_14 (by rw [c_14]; decide) (by rw [c_14]; decide) (by rw [c_14]; decide) (by decide) ?_
    refine lv_iload_n hx hb dX2_ofTime_229 rfl (lv_at hl 0 rfl) ?_
    refine lv_i2l (v := ((fX2_part T p0 (fX2_nanosOf (5 : Int32)) (24 : Int64)).toInt64)) hx hb dX2_ofTime_230 (by first | rfl | decide) ?_
    exact re_l hx hb hr hk dX2_ofTime_231 (el (Eq.trans (if_neg c_1) (Eq.trans (if_neg c_2) (Eq.trans (if_neg c_3) (Eq.trans (if_neg c_4) (Eq.trans (if_neg c_5) (Eq.trans (if_neg c_6) (Eq.trans (if_neg c_7) (Eq.trans (if_neg c_8) (Eq.trans (if_neg c_9) (Eq.trans (if_neg c_10) (Eq.trans (if_neg c_11) (Eq.trans (if_neg c_12) (if_pos c_14))))))))))))))
  by_cases c_15 : p1 = (13 : Int32)
  · refine lv_tableIn (tgt := 232) (off := 218) hx hb dX2_ofTime_14 (by rw [c_15]; decide) (by rw [c_15]; decide) (by rw [c_15]; decide) (by decide) ?_
    refine lv_iload_n hx hb dX2_ofTime_232 rfl (lv_at hl 0 rfl) ?_
    refine lv_if_ne (tgt := 242) hx hb dX2_ofTime_233 (by decide) (fun c_16 => ?_) (fun c_16 => ?_)
    · refine lv_iload_n hx hb dX2_ofTime_242 rfl (lv_at hl 0 rfl) ?_
      refine lv_i2l (v := ((fX2_part T p0 (fX2_nanosOf (5 : Int32)) (24 : Int64)).toInt64)) hx hb dX2_ofTime_243 (by first | rfl | decide) ?_
      exact re_l hx hb hr hk dX2_ofTime_244 (el (Eq.trans (if_neg c_1) (Eq.trans (if_neg c_2) (Eq.trans (if_neg c_3) (Eq.trans (if_neg c_4) (Eq.trans (if_neg c_5) (Eq.trans (if_neg c_6) (Eq.trans (if_neg c_7) (Eq.trans (if_neg c_8) (Eq.trans (if_neg c_9) (Eq.trans (if_neg c_10) (Eq.trans (if_neg c_11) (Eq.trans (if_neg c_12) (Eq.trans (if_neg c_14) (Eq.trans (if_pos c_15) (if_neg c_16))))))))))))))))
    · refine lv_ldc2 (v := (24 : Int64)) hx hb hown (hw _ bw1332) dX2_ofTime_236 ?_
      refine lv_goto (tgt := 244) hx hb dX2_ofTime_239 (by decide) ?_
      exact re_l hx hb hr hk dX2_ofTime_244 (el (Eq.trans (if_neg c_1) (Eq.trans (if_neg c_2) (Eq.trans (if_neg c_3) (Eq.trans (if_neg c_4) (Eq.trans (if_neg c_5) (Eq.trans (if_neg c_6) (Eq.trans (if_neg c_7) (Eq.trans (if_neg c_8) (Eq.trans (if_neg c_9) (Eq.trans (if_neg c_10) (Eq.trans (if_neg c_11) (Eq.trans (if_neg c_12) (Eq.trans (if_neg c_14) (Eq.trans (if_pos c_15) (if_pos c_16))))))))))))))))
  have nc_1 := lv_neT c_1 (a := 0) (by decide)
  have nc_2 := lv_neT c_2 (a := 1) (by decide)
  have nc_3 := lv_neT c_3 (a := 2) (by decide)
  have nc_4 := lv_neT c_4 (a := 3) (by decide)
  have nc_5 := lv_neT c_5 (a := 4) (by decide)
  have nc_6 := lv_neT c_6 (a := 5) (by decide)
  have nc_7 := lv_neT c_7 (a := 6) (by decide)
  have nc_8 := lv_neT c_8 (a := 7) (by decide)
  have nc_9 := lv_neT c_9 (a := 8) (by decide)
  have nc_10 := lv_neT c_10 (a := 9) (by decide)
  have nc_11 := lv_neT c_11 (a := 10) (by decide)
  have nc_12 := lv_neT c_12 (a := 11) (by decide)
  have nc_14 := lv_neT c_14 (a := 12) (by decide)
  have nc_15 := lv_neT c_15 (a := 13) (by decide)
  refine lv_tableOut (tgt := 245) hx hb dX2_ofTime_14 (by omega) (by decide) ?_
  refine lv_iload_n hx hb dX2_ofTime_245 rfl (lv_at hl 0 rfl) ?_
  refine lv_bipush (v := (12 : Int32)) hx hb dX2_ofTime_246 qb_12 ?_
  refine lv_icmp_ge (tgt := 255) hx hb dX2_ofTime_248 (by decide) (fun c_17 => ?_) (fun c_17 => ?_)
  · refine lv_lconst (v := (1 : Int64)) hx hb dX2_ofTime_255 ql_1 ?_
    exact re_l hx hb hr hk dX2_ofTime_256 (el (Eq.trans (if_neg c_1) (Eq.trans (if_neg c_2) (Eq.trans (if_neg c_3) (Eq.trans (if_neg c_4) (Eq.trans (if_neg c_5) (Eq.trans (if_neg c_6) (Eq.trans (if_neg c_7) (Eq.trans (if_neg c_8) (Eq.trans (if_neg c_9) (Eq.trans (if_neg c_10) (Eq.trans (if_neg c_11) (Eq.trans (if_neg c_12) (Eq.trans (if_neg c_14) (Eq.trans (if_neg c_15) (if_pos c_17))))))))))))))))
  · refine lv_lconst (v := (0 : Int64)) hx hb dX2_ofTime_251 ql_0 ?_
    refine lv_goto (tgt := 256) hx hb dX2_ofTime_252 (by decide) ?_
    exact re_l hx hb hr hk dX2_ofTime_256 (el (Eq.trans (if_neg c_1) (Eq.trans (if_neg c_2) (Eq.trans (if_neg c_3) (Eq.trans (if_neg c_4) (Eq.trans (if_neg c_5) (Eq.trans (if_neg c_6) (Eq.trans (if_neg c_7) (Eq.trans (if_neg c_8) (Eq.trans (if_neg c_9) (Eq.trans (if_neg c_10) (Eq.trans (if_neg c_11) (Eq.trans (if_neg c_12) (Eq.trans (if_neg c_14) (Eq.trans (if_neg c_15) (if_neg c_17))))))))))))))))

set_option maxRecDepth 100000 in
set_option maxHeartbeats 4000000 in
theorem c_X2_ofDate (l : Launch) (G : GT) (b : Nat → Nat) (T : SM) (p0 : Int32) (p1 : Int32) (h0 : vp_in p0 6) (hT : MO T) : RO l G yX2_ofDate cX2_ofDate 6 (some .long) 7 [.ref (b 0), .int p0, .int p1] (wM G b T) (some (.long (fX2_ofDate T p0 p1))) := by
  refine RO.ofW (own := RX2) rfl (plainFor_of_name pnN_RX2) (Nat.le_of_ble_eq_true rfl) ?_
  intro p e s m below meth c C hr hk hE hP ls hl
  have hx := C.1
  have hb := C.2.1
  have hown := C.2.2.2.1
  have hw := C.2.2.2.2
  have hl : lv_has ls 6 [(0, .ref (b 0)), (1, .int p0), (2, .int p1)] := hl
  refine lv_aload_n hx hb dX2_ofDate_0 rfl (lv_at hl 0 rfl) ?_
  refine va_get (D := gD G) (cl := vwCl) (tys := gT G) (ci := 4) (v := .ref (b 3)) (C := RX2) (T := TX2) (N := 12) hx hb hw inB_X2 hown hE.K hP 0 rfl rfl 3 (by decide) (hw _ bw1166) (fun _ h9 => h9) rfl dX2_ofDate_1 ?_
  refine lv_iload_n hx hb dX2_ofDate_4 rfl (lv_at hl 1 rfl) ?_
  refine va_iald (tys := gT G) hx hb hE.K hP 3 0 rfl rfl h0 dX2_ofDate_5 ?_
  refine lv_iconst (v := (1 : Int32)) hx hb dX2_ofDate_6 qi_1 ?_
  refine lv_isub hx hb dX2_ofDate_7 ?_
  refine lv_istore_n (lv' := [(3, .int ((md T p0.toNatClampNeg) - (1 : Int32))), (0, .ref (b 0)), (1, .int p0), (2, .int p1)]) hx hb dX2_ofDate_8 rfl hl (Nat.le_of_ble_eq_true rfl) rfl (fun ls hl => ?_)
  refine lv_aload_n hx hb dX2_ofDate_9 rfl (lv_at hl 1 rfl) ?_
  refine lv_iload_n hx hb dX2_ofDate_10 rfl (lv_at hl 2 rfl) ?_
  refine rcVi (as := [.int p0]) (rest := []) (cl := RX2) C (c_X2_inYearNow l G b T p0 h0 hT) F_X2_inYearNow rfl bw1464 bw1466 bw44 hE hP (rv4 hE.K hP (q0 := 0) rfl) hl.1 dX2_ofDate_11 ⟨Nat.le_of_ble_eq_true rfl, Nat.le_of_ble_eq_true rfl⟩ rfl (Nat.le_of_ble_eq_true rfl) ⟨Nat.zero_le _, Nat.zero_le _⟩ ?_
  refine lv_iconst (v := (1 : Int32)) hx hb dX2_ofDate_14 qi_1 ?_
  refine lv_isub hx hb dX2_ofDate_15 ?_
  refine lv_istore (lv' := [(4, .int ((fX2_inYearNow T p0) - (1 : Int32))), (3, .int ((md T p0.toNatClampNeg) - (1 : Int32))), (0, .ref (b 0)), (1, .int p0), (2, .int p1)]) hx hb dX2_ofDate_16 hl (Nat.le_of_ble_eq_true rfl) rfl (fun ls hl => ?_)
  refine lv_aload_n hx hb dX2_ofDate_18 rfl (lv_at hl 2 rfl) ?_
  refine va_get (D := gD G) (cl := vwCl) (tys := gT G) (ci := 4) (v := .ref (b 1)) (C := RX2) (T := TX2) (N := 12) hx hb hw inB_X2 hown hE.K hP 0 rfl rfl 1 (by decide) (hw _ bw1164) (fun _ h9 => h9) rfl dX2_ofDate_19 ?_
  refine lv_iload_n hx hb dX2_ofDate_22 rfl (lv_at hl 3 rfl) ?_
  refine va_iald (tys := gT G) hx hb hE.K hP 1 0 rfl rfl h0 dX2_ofDate_23 ?_
  refine lv_istore (lv' := [(5, .int (my T p0.toNatClampNeg)), (4, .int ((fX2_inYearNow T p0) - (1 : Int32))), (3, .int ((md T p0.toNatClampNeg) - (1 : Int32))), (0, .ref (b 0)), (1, .int p0), (2, .int p1)]) hx hb dX2_ofDate_24 hl (Nat.le_of_ble_eq_true rfl) rfl (fun ls hl => ?_)
  refine lv_iload_n hx hb dX2_ofDate_26 rfl (lv_at hl 5 rfl) ?_
  by_cases c_1 : p1 = (15 : Int32)
  · refine lv_tableIn (tgt := 88) (off := 61) hx hb dX2_ofDate_27 (by rw [c_1]; decide) (by rw [c_1]; decide) (by rw [c_1]; decide) (by decide) ?_
    refine lv_aload_n hx hb dX2_ofDate_88 rfl (lv_at hl 3 rfl) ?_
    refine lv_iload_n hx hb dX2_ofDate_89 rfl (lv_at hl 4 rfl) ?_
    refine rcVi (as := [.int p0]) (rest := []) (cl := RX2) C (c_X2_weekDayNow l G b T p0 h0 hT) F_X2_weekDayNow rfl bw1243 bw1245 bw37 hE hP (rv4 hE.K hP (q0 := 0) rfl) hl.1 dX2_ofDate_90 ⟨Nat.le_of_ble_eq_true rfl, Nat.le_of_ble_eq_true rfl⟩ rfl (Nat.le_of_ble_eq_true rfl) ⟨Nat.zero_le _, Nat.zero_le _⟩ ?_
    refine lv_i2l (v := ((fX2_weekDayNow T p0).toInt64)) hx hb dX2_ofDate_93 (by first | rfl | decide) ?_
    exact re_l hx hb hr hk dX2_ofDate_94 (el (if_pos c_1))
  by_cases c_2 : p1 = (16 : Int32)
  · refine lv_tableIn (tgt := 95) (off := 68) hx hb dX2_ofDate_27 (by rw [c_2]; decide) (by rw [c_2]; decide) (by rw [c_2]; decide) (by decide) ?_
    refine lv_iload_n hx hb dX2_ofDate_95 rfl (lv_at hl 2 rfl) ?_
    refine lv_bipush (v := (7 : Int32)) hx hb dX2_ofDate_96 qb_7 ?_
    refine lv_irem hx hb dX2_ofDate_98 (by decide) ?_
    refine lv_iconst (v := (1 : Int32)) hx hb dX2_ofDate_99 qi_1 ?_
    refine lv_iadd hx hb dX2_ofDate_100 ?_
    refine lv_i2l (v := (((((md T p0.toNatClampNeg) - (1 : Int32)) - ((md T p0.toNatClampNeg) - (1 : Int32)) / (7 : Int32) * (7 : Int32)) + (1 : Int32)).toInt64)) hx hb dX2_ofDate_101 (by first | rfl | decide) ?_
    exact re_l hx hb hr hk dX2_ofDate_102 (el (Eq.trans (if_neg c_1) (if_pos c_2)))
  by_cases c_3 : p1 = (17 : Int32)
  · refine lv_tableIn (tgt := 103) (off := 76) hx hb dX2_ofDate_27 (by rw [c_3]; decide) (by rw [c_3]; decide) (by rw [c_3]; decide) (by decide) ?_
    refine lv_iload hx hb dX2_ofDate_103 (lv_at hl 1 rfl) ?_
    refine lv_bipush (v := (7 : Int32)) hx hb dX2_ofDate_105 qb_7 ?_
    refine lv_irem hx hb dX2_ofDate_107 (by decide) ?_
    refine lv_iconst (v := (1 : Int32)) hx hb dX2_ofDate_108 qi_1 ?_
    refine lv_iadd hx hb dX2_ofDate_109 ?_
    refine lv_i2l (v := (((((fX2_inYearNow T p0) - (1 : Int32)) - ((fX2_inYearNow T p0) - (1 : Int32)) / (7 : Int32) * (7 : Int32)) + (1 : Int32)).toInt64)) hx hb dX2_ofDate_110 (by first | rfl | decide) ?_
    exact re_l hx hb hr hk dX2_ofDate_111 (el (Eq.trans (if_neg c_1) (Eq.trans (if_neg c_2) (if_pos c_3))))
  by_cases c_4 : p1 = (18 : Int32)
  · refine lv_tableIn (tgt := 112) (off := 85) hx hb dX2_ofDate_27 (by rw [c_4]; decide) (by rw [c_4]; decide) (by rw [c_4]; decide) (by decide) ?_
    refine lv_iload_n hx hb dX2_ofDate_112 rfl (lv_at hl 2 rfl) ?_
    refine lv_iconst (v := (1 : Int32)) hx hb dX2_ofDate_113 qi_1 ?_
    refine lv_iadd hx hb dX2_ofDate_114 ?_
    refine lv_i2l (v := ((((md T p0.toNatClampNeg) - (1 : Int32)) + (1 : Int32)).toInt64)) hx hb dX2_ofDate_115 (by first | rfl | decide) ?_
    exact re_l hx hb hr hk dX2_ofDate_116 (el (Eq.trans (if_neg c_1) (Eq.trans (if_neg c_2) (Eq.trans (if_neg c_3) (if_pos c_4)))))
  by_cases c_5 : p1 = (19 : Int32)
  · refine lv_tableIn (tgt := 117) (off := 90) hx hb dX2_ofDate_27 (by rw [c_5]; decide) (by rw [c_5]; decide) (by rw [c_5]; decide) (by decide) ?_
    refine lv_iload hx hb dX2_ofDate_117 (lv_at hl 1 rfl) ?_
    refine lv_iconst (v := (1 : Int32)) hx hb dX2_ofDate_119 qi_1 ?_
    refine lv_iadd hx hb dX2_ofDate_120 ?_
    refine lv_i2l (v := ((((fX2_inYearNow T p0) - (1 : Int32)) + (1 : Int32)).toInt64)) hx hb dX2_ofDate_121 (by first | rfl | decide) ?_
    exact re_l hx hb hr hk dX2_ofDate_122 (el (Eq.trans (if_neg c_1) (Eq.trans (if_neg c_2) (Eq.trans (if_neg c_3) (Eq.trans (if_neg c_4) (if_pos c_5))))))
  by_cases c_6 : p1 = (20 : Int32)
  · refine lv_tableIn (tgt := 123) (off := 96) hx hb dX2_ofDate_27 (by rw [c_6]; decide) (by rw [c_6]; decide) (by rw [c_6]; decide) (by decide) ?_
    refine lv_aload_n hx hb dX2_ofDate_123 rfl (lv_at hl 3 rfl) ?_
    refine lv_iload_n hx hb dX2_ofDate_124 rfl (lv_at hl 4 rfl) ?_
    refine rcVl (as := [.int p0]) (rest := []) (cl := RX2) C (c_X2_dayNow l G b T p0 h0 hT) F_X2_dayNow rfl bw1247 bw1249 bw38 hE hP (rv4 hE.K hP (q0 := 0) rfl) hl.1 dX2_ofDate_125 ⟨Nat.le_of_ble_eq_true rfl, Nat.le_of_ble_eq_true rfl⟩ rfl (Nat.le_of_ble_eq_true rfl) ⟨Nat.zero_le _, Nat.zero_le _⟩ ?_
    exact re_l hx hb hr hk dX2_ofDate_128 (el (Eq.trans (if_neg c_1) (Eq.trans (if_neg c_2) (Eq.trans (if_neg c_3) (Eq.trans (if_neg c_4) (Eq.trans (if_neg c_5) (if_pos c_6)))))))
  by_cases c_7 : p1 = (21 : Int32)
  · refine lv_tableIn (tgt := 129) (off := 102) hx hb dX2_ofDate_27 (by rw [c_7]; decide) (by rw [c_7]; decide) (by rw [c_7]; decide) (by decide) ?_
    refine lv_iload_n hx hb dX2_ofDate_129 rfl (lv_at hl 2 rfl) ?_
    refine lv_bipush (v := (7 : Int32)) hx hb dX2_ofDate_130 qb_7 ?_
    refine lv_idiv hx hb dX2_ofDate_132 (by decide) ?_
    refine lv_iconst (v := (1 : Int32)) hx hb dX2_ofDate_133 qi_1 ?_
    refine lv_iadd hx hb dX2_ofDate_134 ?_
    refine lv_i2l (v := (((((md T p0.toNatClampNeg) - (1 : Int32)) / (7 : Int32)) + (1 : Int32)).toInt64)) hx hb dX2_ofDate_135 (by first | rfl | decide) ?_
    exact re_l hx hb hr hk dX2_ofDate_136 (el (Eq.trans (if_neg c_1) (Eq.trans (if_neg c_2) (Eq.trans (if_neg c_3) (Eq.trans (if_neg c_4) (Eq.trans (if_neg c_5) (Eq.trans (if_neg c_6) (if_pos c_7))))))))
  by_cases c_8 : p1 = (22 : Int32)
  · refine lv_tableIn (tgt := 137) (off := 110) hx hb dX2_ofDate_27 (by rw [c_8]; decide) (by rw [c_8]; decide) (by rw [c_8]; decide) (by decide) ?_
    refine lv_iload hx hb dX2_ofDate_137 (lv_at hl 1 rfl) ?_
    refine lv_bipush (v := (7 : Int32)) hx hb dX2_ofDate_139 qb_7 ?_
    refine lv_idiv hx hb dX2_ofDate_141 (by decide) ?_
    refine lv_iconst (v := (1 : Int32)) hx hb dX2_ofDate_142 qi_1 ?_
    refine lv_iadd hx hb dX2_ofDate_143 ?_
    refine lv_i2l (v := (((((fX2_inYearNow T p0) - (1 : Int32)) / (7 : Int32)) + (1 : Int32)).toInt64)) hx hb dX2_ofDate_144 (by first | rfl | decide) ?_
    exact re_l hx hb hr hk dX2_ofDate_145 (el (Eq.trans (if_neg c_1) (Eq.trans (if_neg c_2) (Eq.trans (if_neg c_3) (Eq.trans (if_neg c_4) (Eq.trans (if_neg c_5) (Eq.trans (if_neg c_6) (Eq.trans (if_neg c_7) (if_pos c_8)))))))))
  by_cases c_9 : p1 = (23 : Int32)
  · refine lv_tableIn (tgt := 146) (off := 119) hx hb dX2_ofDate_27 (by rw [c_9]; decide) (by rw [c_9]; decide) (by rw [c_9]; decide) (by decide) ?_
    refine lv_aload_n hx hb dX2_ofDate_146 rfl (lv_at hl 3 rfl) ?_
    refine va_get (D := gD G) (cl := vwCl) (tys := gT G) (ci := 4) (v := .ref (b 2)) (C := RX2) (T := TX2) (N := 12) hx hb hw inB_X2 hown hE.K hP 0 rfl rfl 2 (by decide) (hw _ bw1165) (fun _ h9 => h9) rfl dX2_ofDate_147 ?_
    refine lv_iload_n hx hb dX2_ofDate_150 rfl (lv_at hl 4 rfl) ?_
    refine va_iald (tys := gT G) hx hb hE.K hP 2 0 rfl rfl h0 dX2_ofDate_151 ?_
    refine lv_i2l (v := ((mm T p0.toNatClampNeg).toInt64)) hx hb dX2_ofDate_152 (by first | rfl | decide) ?_
    exact re_l hx hb hr hk dX2_ofDate_153 (el (Eq.trans (if_neg c_1) (Eq.trans (if_neg c_2) (Eq.trans (if_neg c_3) (Eq.trans (if_neg c_4) (Eq.trans (if_neg c_5) (Eq.trans (if_neg c_6) (Eq.trans (if_neg c_7) (Eq.trans (if_neg c_8) (if_pos c_9))))))))))
  by_cases c_10 : p1 = (24 : Int32)
  · refine lv_tableIn (tgt := 154) (off := 127) hx hb dX2_ofDate_27 (by rw [c_10]; decide) (by rw [c_10]; decide) (by rw [c_10]; decide) (by decide) ?_
    refine lv_ldc2 (v := (12 : Int64)) hx hb hown (hw _ bw1368) dX2_ofDate_154 ?_
    refine lv_iload hx hb dX2_ofDate_157 (lv_at hl 0 rfl) ?_
    refine lv_i2l (v := ((my T p0.toNatClampNeg).toInt64)) hx hb dX2_ofDate_159 (by first | rfl | decide) ?_
    refine lv_lmul hx hb dX2_ofDate_160 ?_
    refine lv_aload_n hx hb dX2_ofDate_161 rfl (lv_at hl 3 rfl) ?_
    refine va_get (D := gD G) (cl := vwCl) (tys := gT G) (ci := 4) (v := .ref (b 2)) (C := RX2) (T := TX2) (N := 12) hx hb hw inB_X2 hown hE.K hP 0 rfl rfl 2 (by decide) (hw _ bw1165) (fun _ h9 => h9) rfl dX2_ofDate_162 ?_
    refine lv_iload_n hx hb dX2_ofDate_165 rfl (lv_at hl 4 rfl) ?_
    refine va_iald (tys := gT G) hx hb hE.K hP 2 0 rfl rfl h0 dX2_ofDate_166 ?_
    refine lv_i2l (v := ((mm T p0.toNatClampNeg).toInt64)) hx hb dX2_ofDate_167 (by first | rfl | decide) ?_
    refine lv_ladd hx hb dX2_ofDate_168 ?_
    refine lv_lconst (v := (1 : Int64)) hx hb dX2_ofDate_169 ql_1 ?_
    refine lv_lsub hx hb dX2_ofDate_170 ?_
    exact re_l hx hb hr hk dX2_ofDate_171 (el (Eq.trans (if_neg c_1) (Eq.trans (if_neg c_2) (Eq.trans (if_neg c_3) (Eq.trans (if_neg c_4) (Eq.trans (if_neg c_5) (Eq.trans (if_neg c_6) (Eq.trans (if_neg c_7) (Eq.trans (if_neg c_8) (Eq.trans (if_neg c_9) (if_pos c_10)))))))))))
  by_cases c_11 : p1 = (25 : Int32)
  · refine lv_tableIn (tgt := 172) (off := 145) hx hb dX2_ofDate_27 (by rw [c_11]; decide) (by rw [c_11]; decide) (by rw [c_11]; decide) (by decide) ?_
    refine lv_iload hx hb dX2_ofDate_172 (lv_at hl 0 rfl) ?_
    refine lv_if_le (tgt := 183) hx hb dX2_ofDate_174 (by decide) (fun c_12 => ?_) (fun c_12 => ?_)
    · refine lv_iconst (v := (1 : Int32)) hx hb dX2_ofDate_183 qi_1 ?_
      refine lv_iload hx hb dX2_ofDate_184 (lv_at hl 0 rfl) ?_
      refine lv_isub hx hb dX2_ofDate_186 ?_
      refine lv_i2l (v := (((1 : Int32) - (my T p0.toNatClampNeg)).toInt64)) hx hb dX2_ofDate_187 (by first | rfl | decide) ?_
      exact re_l hx hb hr hk dX2_ofDate_188 (el (Eq.trans (if_neg c_1) (Eq.trans (if_neg c_2) (Eq.trans (if_neg c_3) (Eq.trans (if_neg c_4) (Eq.trans (if_neg c_5) (Eq.trans (if_neg c_6) (Eq.trans (if_neg c_7) (Eq.trans (if_neg c_8) (Eq.trans (if_neg c_9) (Eq.trans (if_neg c_10) (Eq.trans (if_pos c_11) (if_pos c_12)))))))))))))
    · refine lv_iload hx hb dX2_ofDate_177 (lv_at hl 0 rfl) ?_
      refine lv_i2l (v := ((my T p0.toNatClampNeg).toInt64)) hx hb dX2_ofDate_179 (by first | rfl | decide) ?_
      refine lv_goto (tgt := 188) hx hb dX2_ofDate_180 (by decide) ?_
      exact re_l hx hb hr hk dX2_ofDate_188 (el (Eq.trans (if_neg c_1) (Eq.trans (if_neg c_2) (Eq.trans (if_neg c_3) (Eq.trans (if_neg c_4) (Eq.trans (if_neg c_5) (Eq.trans (if_neg c_6) (Eq.trans (if_neg c_7) (Eq.trans (if_neg c_8) (Eq.trans (if_neg c_9) (Eq.trans (if_neg c_10) (Eq.trans (if_pos c_11) (if_neg c_12)))))))))))))
  by_cases c_13 : p1 = (26 : Int32)
  · refine lv_tableIn (tgt := 189) (off := 162) hx hb dX2_ofDate_27 (by rw [c_13]; decide) (by rw [c_13]; decide) (by rw [c_13]; decide) (by decide) ?_
    refine lv_iload hx hb dX2_ofDate_189 (lv_at hl 0 rfl) ?_
    refine lv_i2l (v := ((my T p0.toNatClampNeg).toInt64)) hx hb dX2_ofDate_191 (by first | rfl | decide) ?_
    exact re_l hx hb hr hk dX2_ofDate_192 (el (Eq.trans (if_neg c_1) (Eq.trans (if_neg c_2) (Eq.trans (if_neg c_3) (Eq.trans (if_neg c_4) (Eq.trans (if_neg c_5) (Eq.trans (if_neg c_6) (Eq.trans (if_neg c_7) (Eq.trans (if_neg c_8) (Eq.trans (if_neg c_9) (Eq.trans (if_neg c_10) (Eq.trans (if_neg c_11) (if_pos c_13)))))))))))))
  have nc_1 := lv_neT c_1 (a := 15) (by decide)
  have nc_2 := lv_neT c_2 (a := 16) (by decide)
  have nc_3 := lv_neT c_3 (a := 17) (by decide)
  have nc_4 := lv_neT c_4 (a := 18) (by decide)
  have nc_5 := lv_neT c_5 (a := 19) (by decide)
  have nc_6 := lv_neT c_6 (a := 20) (by decide)
  have nc_7 := lv_neT c_7 (a := 21) (by decide)
  have nc_8 := lv_neT c_8 (a := 22) (by decide)
  have nc_9 := lv_neT c_9 (a := 23) (by decide)
  have nc_10 := lv_neT c_10 (a := 24) (by decide)
  have nc_11 := lv_neT c_11 (a := 25) (by decide)
  have nc_13 := lv_neT c_13 (a := 26) (by decide)
  refine lv_tableOut (tgt := 193) hx hb dX2_ofDate_27 (by omega) (by decide) ?_
  refine lv_iload hx hb dX2_ofDate_193 (lv_at hl 0 rfl) ?_
  refine lv_if_le (tgt := 202) hx hb dX2_ofDate_195 (by decide) (fun c_14 => ?_) (fun c_14 => ?_)
  · refine lv_lconst (v := (0 : Int64)) hx hb dX2_ofDate_202 ql_0 ?_
    exact re_l hx hb hr hk dX2_ofDate_203 (el (Eq.trans (if_neg c_1) (Eq.trans (if_neg c_2) (Eq.trans (if_neg c_3) (Eq.trans (if_neg c_4) (Eq.trans (if_neg c_5) (Eq.trans (if_neg c_6) (Eq.trans (if_neg c_7) (Eq.trans (if_neg c_8) (Eq.trans (if_neg c_9) (Eq.trans (if_neg c_10) (Eq.trans (if_neg c_11) (Eq.trans (if_neg c_13) (if_pos c_14))))))))))))))
  · refine lv_lconst (v := (1 : Int64)) hx hb dX2_ofDate_198 ql_1 ?_
    refine lv_goto (tgt := 203) hx hb dX2_ofDate_199 (by decide) ?_
    exact re_l hx hb hr hk dX2_ofDate_203 (el (Eq.trans (if_neg c_1) (Eq.trans (if_neg c_2) (Eq.trans (if_neg c_3) (Eq.trans (if_neg c_4) (Eq.trans (if_neg c_5) (Eq.trans (if_neg c_6) (Eq.trans (if_neg c_7) (Eq.trans (if_neg c_8) (Eq.trans (if_neg c_9) (Eq.trans (if_neg c_10) (Eq.trans (if_neg c_11) (Eq.trans (if_neg c_13) (if_neg c_14))))))))))))))

set_option maxRecDepth 100000 in
set_option maxHeartbeats 4000000 in
theorem c_X2_order (l : Launch) (G : GT) (b : Nat → Nat) (T : SM) (p0 : Int32) (p1 : Int32) (h0 : vp_in p0 6) (h1 : vp_in p1 6) (hT : MO T) : RO l G yX2_order cX2_order 7 (some .int) 6 [.ref (b 0), .int p0, .int p1] (wM G b T) (some (.int (fX2_order T p0 p1))) := by
  refine RO.ofW (own := RX2) rfl (plainFor_of_name pnN_RX2) (Nat.le_of_ble_eq_true rfl) ?_
  intro p e s m below meth c C hr hk hE hP ls hl
  have hx := C.1
  have hb := C.2.1
  have hown := C.2.2.2.1
  have hw := C.2.2.2.2
  have hl : lv_has ls 7 [(0, .ref (b 0)), (1, .int p0), (2, .int p1)] := hl
  refine lv_aload_n hx hb dX2_order_0 rfl (lv_at hl 0 rfl) ?_
  refine lv_iload_n hx hb dX2_order_1 rfl (lv_at hl 1 rfl) ?_
  refine rcVl (as := [.int p0]) (rest := []) (cl := RX2) C (c_X2_dayNow l G b T p0 h0 hT) F_X2_dayNow rfl bw1247 bw1249 bw38 hE hP (rv4 hE.K hP (q0 := 0) rfl) hl.1 dX2_order_2 ⟨Nat.le_of_ble_eq_true rfl, Nat.le_of_ble_eq_true rfl⟩ rfl (Nat.le_of_ble_eq_true rfl) ⟨Nat.zero_le _, Nat.zero_le _⟩ ?_
  refine lv_aload_n hx hb dX2_order_5 rfl (lv_at hl 0 rfl) ?_
  refine lv_iload_n hx hb dX2_order_6 rfl (lv_at hl 2 rfl) ?_
  refine rcVl (as := [.int p1]) (rest := [.long (fX2_dayNow T p0)]) (cl := RX2) C (c_X2_dayNow l G b T p1 h1 hT) F_X2_dayNow rfl bw1247 bw1249 bw38 hE hP (rv4 hE.K hP (q0 := 0) rfl) hl.1 dX2_order_7 ⟨Nat.le_of_ble_eq_true rfl, Nat.le_of_ble_eq_true rfl⟩ rfl (Nat.le_of_ble_eq_true rfl) ⟨Nat.zero_le _, Nat.zero_le _⟩ ?_
  refine lv_lsub hx hb dX2_order_10 ?_
  refine lv_lstore_n (lv' := [(3, .long ((fX2_dayNow T p0) - (fX2_dayNow T p1))), (0, .ref (b 0)), (1, .int p0), (2, .int p1)]) hx hb dX2_order_11 rfl hl (Nat.le_of_ble_eq_true rfl) rfl (fun ls hl => ?_)
  refine lv_lload_n hx hb dX2_order_12 rfl (lv_at hl 0 rfl) ?_
  refine lv_lconst (v := (0 : Int64)) hx hb dX2_order_13 ql_0 ?_
  refine W.lcmp hx hb dX2_order_14 ?_
  refine lv_if_eq (tgt := 22) hx hb dX2_order_15 (by decide) (fun c_1 => ?_) (fun c_1 => ?_)
  · refine lv_aload_n hx hb dX2_order_22 rfl (lv_at hl 1 rfl) ?_
    refine va_get (D := gD G) (cl := vwCl) (tys := gT G) (ci := 4) (v := .ref (b 4)) (C := RX2) (T := TX2) (N := 12) hx hb hw inB_X2 hown hE.K hP 0 rfl rfl 4 (by decide) (hw _ bw1167) (fun _ h9 => h9) rfl dX2_order_23 ?_
    refine lv_iload_n hx hb dX2_order_26 rfl (lv_at hl 2 rfl) ?_
    refine va_lald (tys := gT G) hx hb hE.K hP 4 1 rfl rfl h0 dX2_order_27 ?_
    refine lv_aload_n hx hb dX2_order_28 rfl (lv_at hl 1 rfl) ?_
    refine va_get (D := gD G) (cl := vwCl) (tys := gT G) (ci := 4) (v := .ref (b 4)) (C := RX2) (T := TX2) (N := 12) hx hb hw inB_X2 hown hE.K hP 0 rfl rfl 4 (by decide) (hw _ bw1167) (fun _ h9 => h9) rfl dX2_order_29 ?_
    refine lv_iload_n hx hb dX2_order_32 rfl (lv_at hl 3 rfl) ?_
    refine va_lald (tys := gT G) hx hb hE.K hP 4 1 rfl rfl h1 dX2_order_33 ?_
    refine lv_lsub hx hb dX2_order_34 ?_
    refine lv_lstore (lv' := [(5, .long ((mt T p0.toNatClampNeg) - (mt T p1.toNatClampNeg))), (3, .long ((fX2_dayNow T p0) - (fX2_dayNow T p1))), (0, .ref (b 0)), (1, .int p0), (2, .int p1)]) hx hb dX2_order_35 hl (Nat.le_of_ble_eq_true rfl) rfl (fun ls hl => ?_)
    refine lv_lload hx hb dX2_order_37 (lv_at hl 0 rfl) ?_
    refine lv_lconst (v := (0 : Int64)) hx hb dX2_order_39 ql_0 ?_
    refine W.lcmp hx hb dX2_order_40 ?_
    refine lv_if_ge (tgt := 48) hx hb dX2_order_41 (by decide) (fun c_2 => ?_) (fun c_2 => ?_)
    · refine lv_lload hx hb dX2_order_48 (lv_at hl 0 rfl) ?_
      refine lv_lconst (v := (0 : Int64)) hx hb dX2_order_50 ql_0 ?_
      refine W.lcmp hx hb dX2_order_51 ?_
      refine lv_if_le (tgt := 59) hx hb dX2_order_52 (by decide) (fun c_3 => ?_) (fun c_3 => ?_)
      · refine lv_iconst (v := (0 : Int32)) hx hb dX2_order_59 qi_0 ?_
        exact re_i hx hb hr hk dX2_order_60 (ei (Eq.trans (if_pos c_1) (Eq.trans (if_pos c_2) (if_pos c_3))))
      · refine lv_iconst (v := (1 : Int32)) hx hb dX2_order_55 qi_1 ?_
        refine lv_goto (tgt := 60) hx hb dX2_order_56 (by decide) ?_
        exact re_i hx hb hr hk dX2_order_60 (ei (Eq.trans (if_pos c_1) (Eq.trans (if_pos c_2) (if_neg c_3))))
    · refine lv_iconst (v := (-1 : Int32)) hx hb dX2_order_44 qi_m1 ?_
      refine lv_goto (tgt := 60) hx hb dX2_order_45 (by decide) ?_
      exact re_i hx hb hr hk dX2_order_60 (ei (Eq.trans (if_pos c_1) (if_neg c_2)))
  · refine lv_lload_n hx hb dX2_order_18 rfl (lv_at hl 0 rfl) ?_
    refine lv_goto (tgt := 35) hx hb dX2_order_19 (by decide) ?_
    refine lv_lstore (lv' := [(5, .long ((fX2_dayNow T p0) - (fX2_dayNow T p1))), (3, .long ((fX2_dayNow T p0) - (fX2_dayNow T p1))), (0, .ref (b 0)), (1, .int p0), (2, .int p1)]) hx hb dX2_order_35 hl (Nat.le_of_ble_eq_true rfl) rfl (fun ls hl => ?_)
    refine lv_lload hx hb dX2_order_37 (lv_at hl 0 rfl) ?_
    refine lv_lconst (v := (0 : Int64)) hx hb dX2_order_39 ql_0 ?_
    refine W.lcmp hx hb dX2_order_40 ?_
    refine lv_if_ge (tgt := 48) hx hb dX2_order_41 (by decide) (fun c_4 => ?_) (fun c_4 => ?_)
    · refine lv_lload hx hb dX2_order_48 (lv_at hl 0 rfl) ?_
      refine lv_lconst (v := (0 : Int64)) hx hb dX2_order_50 ql_0 ?_
      refine W.lcmp hx hb dX2_order_51 ?_
      refine lv_if_le (tgt := 59) hx hb dX2_order_52 (by decide) (fun c_5 => ?_) (fun c_5 => ?_)
      · refine lv_iconst (v := (0 : Int32)) hx hb dX2_order_59 qi_0 ?_
        exact re_i hx hb hr hk dX2_order_60 (ei (Eq.trans (if_neg c_1) (Eq.trans (if_pos c_4) (if_pos c_5))))
      · refine lv_iconst (v := (1 : Int32)) hx hb dX2_order_55 qi_1 ?_
        refine lv_goto (tgt := 60) hx hb dX2_order_56 (by decide) ?_
        exact re_i hx hb hr hk dX2_order_60 (ei (Eq.trans (if_neg c_1) (Eq.trans (if_pos c_4) (if_neg c_5))))
    · refine lv_iconst (v := (-1 : Int32)) hx hb dX2_order_44 qi_m1 ?_
      refine lv_goto (tgt := 60) hx hb dX2_order_45 (by decide) ?_
      exact re_i hx hb hr hk dX2_order_60 (ei (Eq.trans (if_neg c_1) (if_neg c_4)))

set_option maxRecDepth 100000 in
set_option maxHeartbeats 4000000 in
theorem c_X2_lineBetween (l : Launch) (G : GT) (b : Nat → Nat) (T : SM) (p0 : Int32) (p1 : Int32) (p2 : Int32) (h0 : vp_in p0 6) (h1 : vp_in p1 6) (hT : MO T) : RO l G yX2_lineBetween cX2_lineBetween 8 (some .long) 6 [.ref (b 0), .int p0, .int p1, .int p2] (wM G b T) (some (.long (fX2_lineBetween T p0 p1 p2))) := by
  refine RO.ofW (own := RX2) rfl (plainFor_of_name pnN_RX2) (Nat.le_of_ble_eq_true rfl) ?_
  intro p e s m below meth c C hr hk hE hP ls hl
  have hx := C.1
  have hb := C.2.1
  have hown := C.2.2.2.1
  have hw := C.2.2.2.2
  have hl : lv_has ls 8 [(0, .ref (b 0)), (1, .int p0), (2, .int p1), (3, .int p2)] := hl
  refine lv_aload_n hx hb dX2_lineBetween_0 rfl (lv_at hl 0 rfl) ?_
  refine lv_iload_n hx hb dX2_lineBetween_1 rfl (lv_at hl 2 rfl) ?_
  refine rcVl (as := [.int p1]) (rest := []) (cl := RX2) C (c_X2_dayNow l G b T p1 h1 hT) F_X2_dayNow rfl bw1247 bw1249 bw38 hE hP (rv4 hE.K hP (q0 := 0) rfl) hl.1 dX2_lineBetween_2 ⟨Nat.le_of_ble_eq_true rfl, Nat.le_of_ble_eq_true rfl⟩ rfl (Nat.le_of_ble_eq_true rfl) ⟨Nat.zero_le _, Nat.zero_le _⟩ ?_
  refine lv_aload_n hx hb dX2_lineBetween_5 rfl (lv_at hl 0 rfl) ?_
  refine lv_iload_n hx hb dX2_lineBetween_6 rfl (lv_at hl 1 rfl) ?_
  refine rcVl (as := [.int p0]) (rest := [.long (fX2_dayNow T p1)]) (cl := RX2) C (c_X2_dayNow l G b T p0 h0 hT) F_X2_dayNow rfl bw1247 bw1249 bw38 hE hP (rv4 hE.K hP (q0 := 0) rfl) hl.1 dX2_lineBetween_7 ⟨Nat.le_of_ble_eq_true rfl, Nat.le_of_ble_eq_true rfl⟩ rfl (Nat.le_of_ble_eq_true rfl) ⟨Nat.zero_le _, Nat.zero_le _⟩ ?_
  refine lv_lsub hx hb dX2_lineBetween_10 ?_
  refine lv_lstore (lv' := [(4, .long ((fX2_dayNow T p1) - (fX2_dayNow T p0))), (0, .ref (b 0)), (1, .int p0), (2, .int p1), (3, .int p2)]) hx hb dX2_lineBetween_11 hl (Nat.le_of_ble_eq_true rfl) rfl (fun ls hl => ?_)
  refine lv_aload_n hx hb dX2_lineBetween_13 rfl (lv_at hl 1 rfl) ?_
  refine va_get (D := gD G) (cl := vwCl) (tys := gT G) (ci := 4) (v := .ref (b 4)) (C := RX2) (T := TX2) (N := 12) hx hb hw inB_X2 hown hE.K hP 0 rfl rfl 4 (by decide) (hw _ bw1167) (fun _ h9 => h9) rfl dX2_lineBetween_14 ?_
  refine lv_iload_n hx hb dX2_lineBetween_17 rfl (lv_at hl 3 rfl) ?_
  refine va_lald (tys := gT G) hx hb hE.K hP 4 1 rfl rfl h1 dX2_lineBetween_18 ?_
  refine lv_aload_n hx hb dX2_lineBetween_19 rfl (lv_at hl 1 rfl) ?_
  refine va_get (D := gD G) (cl := vwCl) (tys := gT G) (ci := 4) (v := .ref (b 4)) (C := RX2) (T := TX2) (N := 12) hx hb hw inB_X2 hown hE.K hP 0 rfl rfl 4 (by decide) (hw _ bw1167) (fun _ h9 => h9) rfl dX2_lineBetween_20 ?_
  refine lv_iload_n hx hb dX2_lineBetween_23 rfl (lv_at hl 2 rfl) ?_
  refine va_lald (tys := gT G) hx hb hE.K hP 4 1 rfl rfl h0 dX2_lineBetween_24 ?_
  refine lv_lsub hx hb dX2_lineBetween_25 ?_
  refine lv_lstore (lv' := [(6, .long ((mt T p1.toNatClampNeg) - (mt T p0.toNatClampNeg))), (4, .long ((fX2_dayNow T p1) - (fX2_dayNow T p0))), (0, .ref (b 0)), (1, .int p0), (2, .int p1), (3, .int p2)]) hx hb dX2_lineBetween_26 hl (Nat.le_of_ble_eq_true rfl) rfl (fun ls hl => ?_)
  refine lv_lload hx hb dX2_lineBetween_28 (lv_at hl 1 rfl) ?_
  refine lv_lconst (v := (0 : Int64)) hx hb dX2_lineBetween_30 ql_0 ?_
  refine W.lcmp hx hb dX2_lineBetween_31 ?_
  refine lv_if_le (tgt := 56) hx hb dX2_lineBetween_32 (by decide) (fun c_1 => ?_) (fun c_1 => ?_)
  · refine lv_lload hx hb dX2_lineBetween_56 (lv_at hl 1 rfl) ?_
    refine lv_lconst (v := (0 : Int64)) hx hb dX2_lineBetween_58 ql_0 ?_
    refine W.lcmp hx hb dX2_lineBetween_59 ?_
    refine lv_if_ge (tgt := 84) hx hb dX2_lineBetween_60 (by decide) (fun c_2 => ?_) (fun c_2 => ?_)
    · refine lv_iload_n hx hb dX2_lineBetween_84 rfl (lv_at hl 5 rfl) ?_
      refine lv_bipush (v := (8 : Int32)) hx hb dX2_lineBetween_85 qb_8 ?_
      refine lv_icmp_ne (tgt := 97) hx hb dX2_lineBetween_87 (by decide) (fun c_3 => ?_) (fun c_3 => ?_)
      · refine lv_lload hx hb dX2_lineBetween_97 (lv_at hl 1 rfl) ?_
        refine lv_ldc2 (v := (86400000000000 : Int64)) hx hb hown (hw _ bw1360) dX2_lineBetween_99 ?_
        refine lv_iload_n hx hb dX2_lineBetween_102 rfl (lv_at hl 5 rfl) ?_
        refine rcSl (as := [.int p2]) (rest := [.long (86400000000000 : Int64), .long ((fX2_dayNow T p1) - (fX2_dayNow T p0))]) C (c_X2_nanosOf l G p2) F_X2_nanosOf rfl bw1354 bw1355 hE vpn hl.1 dX2_lineBetween_103 ⟨Nat.le_of_ble_eq_true rfl, Nat.le_of_ble_eq_true rfl⟩ rfl (Nat.le_of_ble_eq_true rfl) ⟨Nat.zero_le _, Nat.zero_le _⟩ ?_
        refine lv_ldiv hx hb dX2_lineBetween_106 (nz_nanosOf p2) ?_
        refine lv_lmul hx hb dX2_lineBetween_107 ?_
        refine lv_lload hx hb dX2_lineBetween_108 (lv_at hl 0 rfl) ?_
        refine lv_iload_n hx hb dX2_lineBetween_110 rfl (lv_at hl 5 rfl) ?_
        refine rcSl (as := [.int p2]) (rest := [.long ((mt T p1.toNatClampNeg) - (mt T p0.toNatClampNeg)), .long (((fX2_dayNow T p1) - (fX2_dayNow T p0)) * ((86400000000000 : Int64) / (fX2_nanosOf p2)))]) C (c_X2_nanosOf l G p2) F_X2_nanosOf rfl bw1354 bw1355 hE vpn hl.1 dX2_lineBetween_111 ⟨Nat.le_of_ble_eq_true rfl, Nat.le_of_ble_eq_true rfl⟩ rfl (Nat.le_of_ble_eq_true rfl) ⟨Nat.zero_le _, Nat.zero_le _⟩ ?_
        refine lv_ldiv hx hb dX2_lineBetween_114 (nz_nanosOf p2) ?_
        refine lv_ladd hx hb dX2_lineBetween_115 ?_
        exact re_l hx hb hr hk dX2_lineBetween_116 (el (Eq.trans (if_pos c_1) (Eq.trans (if_pos c_2) (if_neg c_3))))
      · refine lv_lload hx hb dX2_lineBetween_90 (lv_at hl 1 rfl) ?_
        refine lv_ldc2 (v := (7 : Int64)) hx hb hown (hw _ bw1274) dX2_lineBetween_92 ?_
        refine lv_ldiv hx hb dX2_lineBetween_95 (by decide) ?_
        exact re_l hx hb hr hk dX2_lineBetween_96 (el (Eq.trans (if_pos c_1) (Eq.trans (if_pos c_2) (if_pos c_3))))
    · refine lv_lload hx hb dX2_lineBetween_63 (lv_at hl 0 rfl) ?_
      refine lv_lconst (v := (0 : Int64)) hx hb dX2_lineBetween_65 ql_0 ?_
      refine W.lcmp hx hb dX2_lineBetween_66 ?_
      refine lv_if_le (tgt := 84) hx hb dX2_lineBetween_67 (by decide) (fun c_4 => ?_) (fun c_4 => ?_)
      · refine lv_iload_n hx hb dX2_lineBetween_84 rfl (lv_at hl 5 rfl) ?_
        refine lv_bipush (v := (8 : Int32)) hx hb dX2_lineBetween_85 qb_8 ?_
        refine lv_icmp_ne (tgt := 97) hx hb dX2_lineBetween_87 (by decide) (fun c_5 => ?_) (fun c_5 => ?_)
        · refine lv_lload hx hb dX2_lineBetween_97 (lv_at hl 1 rfl) ?_
          refine lv_ldc2 (v := (86400000000000 : Int64)) hx hb hown (hw _ bw1360) dX2_lineBetween_99 ?_
          refine lv_iload_n hx hb dX2_lineBetween_102 rfl (lv_at hl 5 rfl) ?_
          refine rcSl (as := [.int p2]) (rest := [.long (86400000000000 : Int64), .long ((fX2_dayNow T p1) - (fX2_dayNow T p0))]) C (c_X2_nanosOf l G p2) F_X2_nanosOf rfl bw1354 bw1355 hE vpn hl.1 dX2_lineBetween_103 ⟨Nat.le_of_ble_eq_true rfl, Nat.le_of_ble_eq_true rfl⟩ rfl (Nat.le_of_ble_eq_true rfl) ⟨Nat.zero_le _, Nat.zero_le _⟩ ?_
          refine lv_ldiv hx hb dX2_lineBetween_106 (nz_nanosOf p2) ?_
          refine lv_lmul hx hb dX2_lineBetween_107 ?_
          refine lv_lload hx hb dX2_lineBetween_108 (lv_at hl 0 rfl) ?_
          refine lv_iload_n hx hb dX2_lineBetween_110 rfl (lv_at hl 5 rfl) ?_
          refine rcSl (as := [.int p2]) (rest := [.long ((mt T p1.toNatClampNeg) - (mt T p0.toNatClampNeg)), .long (((fX2_dayNow T p1) - (fX2_dayNow T p0)) * ((86400000000000 : Int64) / (fX2_nanosOf p2)))]) C (c_X2_nanosOf l G p2) F_X2_nanosOf rfl bw1354 bw1355 hE vpn hl.1 dX2_lineBetween_111 ⟨Nat.le_of_ble_eq_true rfl, Nat.le_of_ble_eq_true rfl⟩ rfl (Nat.le_of_ble_eq_true rfl) ⟨Nat.zero_le _, Nat.zero_le _⟩ ?_
          refine lv_ldiv hx hb dX2_lineBetween_114 (nz_nanosOf p2) ?_
          refine lv_ladd hx hb dX2_lineBetween_115 ?_
          exact re_l hx hb hr hk dX2_lineBetween_116 (el (Eq.trans (if_pos c_1) (Eq.trans (if_neg c_2) (Eq.trans (if_pos c_4) (if_neg c_5)))))
        · refine lv_lload hx hb dX2_lineBetween_90 (lv_at hl 1 rfl) ?_
          refine lv_ldc2 (v := (7 : Int64)) hx hb hown (hw _ bw1274) dX2_lineBetween_92 ?_
          refine lv_ldiv hx hb dX2_lineBetween_95 (by decide) ?_
          exact re_l hx hb hr hk dX2_lineBetween_96 (el (Eq.trans (if_pos c_1) (Eq.trans (if_neg c_2) (Eq.trans (if_pos c_4) (if_pos c_5)))))
      · refine lv_lload hx hb dX2_lineBetween_70 (lv_at hl 1 rfl) ?_
        refine lv_lconst (v := (1 : Int64)) hx hb dX2_lineBetween_72 ql_1 ?_
        refine lv_ladd hx hb dX2_lineBetween_73 ?_
        refine lv_lstore (lv' := [(4, .long (((fX2_dayNow T p1) - (fX2_dayNow T p0)) + (1 : Int64))), (6, .long ((mt T p1.toNatClampNeg) - (mt T p0.toNatClampNeg))), (0, .ref (b 0)), (1, .int p0), (2, .int p1), (3, .int p2)]) hx hb dX2_lineBetween_74 hl (Nat.le_of_ble_eq_true rfl) rfl (fun ls hl => ?_)
        refine lv_lload hx hb dX2_lineBetween_76 (lv_at hl 1 rfl) ?_
        refine lv_ldc2 (v := (86400000000000 : Int64)) hx hb hown (hw _ bw1360) dX2_lineBetween_78 ?_
        refine lv_lsub hx hb dX2_lineBetween_81 ?_
        refine lv_lstore (lv' := [(6, .long (((mt T p1.toNatClampNeg) - (mt T p0.toNatClampNeg)) - (86400000000000 : Int64))), (4, .long (((fX2_dayNow T p1) - (fX2_dayNow T p0)) + (1 : Int64))), (0, .ref (b 0)), (1, .int p0), (2, .int p1), (3, .int p2)]) hx hb dX2_lineBetween_82 hl (Nat.le_of_ble_eq_true rfl) rfl (fun ls hl => ?_)
        refine lv_iload_n hx hb dX2_lineBetween_84 rfl (lv_at hl 5 rfl) ?_
        refine lv_bipush (v := (8 : Int32)) hx hb dX2_lineBetween_85 qb_8 ?_
        refine lv_icmp_ne (tgt := 97) hx hb dX2_lineBetween_87 (by decide) (fun c_6 => ?_) (fun c_6 => ?_)
        · refine lv_lload hx hb dX2_lineBetween_97 (lv_at hl 1 rfl) ?_
          refine lv_ldc2 (v := (86400000000000 : Int64)) hx hb hown (hw _ bw1360) dX2_lineBetween_99 ?_
          refine lv_iload_n hx hb dX2_lineBetween_102 rfl (lv_at hl 5 rfl) ?_
          refine rcSl (as := [.int p2]) (rest := [.long (86400000000000 : Int64), .long (((fX2_dayNow T p1) - (fX2_dayNow T p0)) + (1 : Int64))]) C (c_X2_nanosOf l G p2) F_X2_nanosOf rfl bw1354 bw1355 hE vpn hl.1 dX2_lineBetween_103 ⟨Nat.le_of_ble_eq_true rfl, Nat.le_of_ble_eq_true rfl⟩ rfl (Nat.le_of_ble_eq_true rfl) ⟨Nat.zero_le _, Nat.zero_le _⟩ ?_
          refine lv_ldiv hx hb dX2_lineBetween_106 (nz_nanosOf p2) ?_
          refine lv_lmul hx hb dX2_lineBetween_107 ?_
          refine lv_lload hx hb dX2_lineBetween_108 (lv_at hl 0 rfl) ?_
          refine lv_iload_n hx hb dX2_lineBetween_110 rfl (lv_at hl 5 rfl) ?_
          refine rcSl (as := [.int p2]) (rest := [.long (((mt T p1.toNatClampNeg) - (mt T p0.toNatClampNeg)) - (86400000000000 : Int64)), .long ((((fX2_dayNow T p1) - (fX2_dayNow T p0)) + (1 : Int64)) * ((86400000000000 : Int64) / (fX2_nanosOf p2)))]) C (c_X2_nanosOf l G p2) F_X2_nanosOf rfl bw1354 bw1355 hE vpn hl.1 dX2_lineBetween_111 ⟨Nat.le_of_ble_eq_true rfl, Nat.le_of_ble_eq_true rfl⟩ rfl (Nat.le_of_ble_eq_true rfl) ⟨Nat.zero_le _, Nat.zero_le _⟩ ?_
          refine lv_ldiv hx hb dX2_lineBetween_114 (nz_nanosOf p2) ?_
          refine lv_ladd hx hb dX2_lineBetween_115 ?_
          exact re_l hx hb hr hk dX2_lineBetween_116 (el (Eq.trans (if_pos c_1) (Eq.trans (if_neg c_2) (Eq.trans (if_neg c_4) (if_neg c_6)))))
        · refine lv_lload hx hb dX2_lineBetween_90 (lv_at hl 1 rfl) ?_
          refine lv_ldc2 (v := (7 : Int64)) hx hb hown (hw _ bw1274) dX2_lineBetween_92 ?_
          refine lv_ldiv hx hb dX2_lineBetween_95 (by decide) ?_
          exact re_l hx hb hr hk dX2_lineBetween_96 (el (Eq.trans (if_pos c_1) (Eq.trans (if_neg c_2) (Eq.trans (if_neg c_4) (if_pos c_6)))))
  · refine lv_lload hx hb dX2_lineBetween_35 (lv_at hl 0 rfl) ?_
    refine lv_lconst (v := (0 : Int64)) hx hb dX2_lineBetween_37 ql_0 ?_
    refine W.lcmp hx hb dX2_lineBetween_38 ?_
    refine lv_if_ge (tgt := 56) hx hb dX2_lineBetween_39 (by decide) (fun c_7 => ?_) (fun c_7 => ?_)
    · refine lv_lload hx hb dX2_lineBetween_56 (lv_at hl 1 rfl) ?_
      refine lv_lconst (v := (0 : Int64)) hx hb dX2_lineBetween_58 ql_0 ?_
      refine W.lcmp hx hb dX2_lineBetween_59 ?_
      refine lv_if_ge (tgt := 84) hx hb dX2_lineBetween_60 (by decide) (fun c_8 => ?_) (fun c_8 => ?_)
      · refine lv_iload_n hx hb dX2_lineBetween_84 rfl (lv_at hl 5 rfl) ?_
        refine lv_bipush (v := (8 : Int32)) hx hb dX2_lineBetween_85 qb_8 ?_
        refine lv_icmp_ne (tgt := 97) hx hb dX2_lineBetween_87 (by decide) (fun c_9 => ?_) (fun c_9 => ?_)
        · refine lv_lload hx hb dX2_lineBetween_97 (lv_at hl 1 rfl) ?_
          refine lv_ldc2 (v := (86400000000000 : Int64)) hx hb hown (hw _ bw1360) dX2_lineBetween_99 ?_
          refine lv_iload_n hx hb dX2_lineBetween_102 rfl (lv_at hl 5 rfl) ?_
          refine rcSl (as := [.int p2]) (rest := [.long (86400000000000 : Int64), .long ((fX2_dayNow T p1) - (fX2_dayNow T p0))]) C (c_X2_nanosOf l G p2) F_X2_nanosOf rfl bw1354 bw1355 hE vpn hl.1 dX2_lineBetween_103 ⟨Nat.le_of_ble_eq_true rfl, Nat.le_of_ble_eq_true rfl⟩ rfl (Nat.le_of_ble_eq_true rfl) ⟨Nat.zero_le _, Nat.zero_le _⟩ ?_
          refine lv_ldiv hx hb dX2_lineBetween_106 (nz_nanosOf p2) ?_
          refine lv_lmul hx hb dX2_lineBetween_107 ?_
          refine lv_lload hx hb dX2_lineBetween_108 (lv_at hl 0 rfl) ?_
          refine lv_iload_n hx hb dX2_lineBetween_110 rfl (lv_at hl 5 rfl) ?_
          refine rcSl (as := [.int p2]) (rest := [.long ((mt T p1.toNatClampNeg) - (mt T p0.toNatClampNeg)), .long (((fX2_dayNow T p1) - (fX2_dayNow T p0)) * ((86400000000000 : Int64) / (fX2_nanosOf p2)))]) C (c_X2_nanosOf l G p2) F_X2_nanosOf rfl bw1354 bw1355 hE vpn hl.1 dX2_lineBetween_111 ⟨Nat.le_of_ble_eq_true rfl, Nat.le_of_ble_eq_true rfl⟩ rfl (Nat.le_of_ble_eq_true rfl) ⟨Nat.zero_le _, Nat.zero_le _⟩ ?_
          refine lv_ldiv hx hb dX2_lineBetween_114 (nz_nanosOf p2) ?_
          refine lv_ladd hx hb dX2_lineBetween_115 ?_
          exact re_l hx hb hr hk dX2_lineBetween_116 (el (Eq.trans (if_neg c_1) (Eq.trans (if_pos c_7) (Eq.trans (if_pos c_8) (if_neg c_9)))))
        · refine lv_lload hx hb dX2_lineBetween_90 (lv_at hl 1 rfl) ?_
          refine lv_ldc2 (v := (7 : Int64)) hx hb hown (hw _ bw1274) dX2_lineBetween_92 ?_
          refine lv_ldiv hx hb dX2_lineBetween_95 (by decide) ?_
          exact re_l hx hb hr hk dX2_lineBetween_96 (el (Eq.trans (if_neg c_1) (Eq.trans (if_pos c_7) (Eq.trans (if_pos c_8) (if_pos c_9)))))
      · refine lv_lload hx hb dX2_lineBetween_63 (lv_at hl 0 rfl) ?_
        refine lv_lconst (v := (0 : Int64)) hx hb dX2_lineBetween_65 ql_0 ?_
        refine W.lcmp hx hb dX2_lineBetween_66 ?_
        refine lv_if_le (tgt := 84) hx hb dX2_lineBetween_67 (by decide) (fun c_10 => ?_) (fun c_10 => ?_)
        · refine lv_iload_n hx hb dX2_lineBetween_84 rfl (lv_at hl 5 rfl) ?_
          refine lv_bipush (v := (8 : Int32)) hx hb dX2_lineBetween_85 qb_8 ?_
          refine lv_icmp_ne (tgt := 97) hx hb dX2_lineBetween_87 (by decide) (fun c_11 => ?_) (fun c_11 => ?_)
          · refine lv_lload hx hb dX2_lineBetween_97 (lv_at hl 1 rfl) ?_
            refine lv_ldc2 (v := (86400000000000 : Int64)) hx hb hown (hw _ bw1360) dX2_lineBetween_99 ?_
            refine lv_iload_n hx hb dX2_lineBetween_102 rfl (lv_at hl 5 rfl) ?_
            refine rcSl (as := [.int p2]) (rest := [.long (86400000000000 : Int64), .long ((fX2_dayNow T p1) - (fX2_dayNow T p0))]) C (c_X2_nanosOf l G p2) F_X2_nanosOf rfl bw1354 bw1355 hE vpn hl.1 dX2_lineBetween_103 ⟨Nat.le_of_ble_eq_true rfl, Nat.le_of_ble_eq_true rfl⟩ rfl (Nat.le_of_ble_eq_true rfl) ⟨Nat.zero_le _, Nat.zero_le _⟩ ?_
            refine lv_ldiv hx hb dX2_lineBetween_106 (nz_nanosOf p2) ?_
            refine lv_lmul hx hb dX2_lineBetween_107 ?_
            refine lv_lload hx hb dX2_lineBetween_108 (lv_at hl 0 rfl) ?_
            refine lv_iload_n hx hb dX2_lineBetween_110 rfl (lv_at hl 5 rfl) ?_
            refine rcSl (as := [.int p2]) (rest := [.long ((mt T p1.toNatClampNeg) - (mt T p0.toNatClampNeg)), .long (((fX2_dayNow T p1) - (fX2_dayNow T p0)) * ((86400000000000 : Int64) / (fX2_nanosOf p2)))]) C (c_X2_nanosOf l G p2) F_X2_nanosOf rfl bw1354 bw1355 hE vpn hl.1 dX2_lineBetween_111 ⟨Nat.le_of_ble_eq_true rfl, Nat.le_of_ble_eq_true rfl⟩ rfl (Nat.le_of_ble_eq_true rfl) ⟨Nat.zero_le _, Nat.zero_le _⟩ ?_
            refine lv_ldiv hx hb dX2_lineBetween_114 (nz_nanosOf p2) ?_
            refine lv_ladd hx hb dX2_lineBetween_115 ?_
            exact re_l hx hb hr hk dX2_lineBetween_116 (el (Eq.trans (if_neg c_1) (Eq.trans (if_pos c_7) (Eq.trans (if_neg c_8) (Eq.trans (if_pos c_10) (if_neg c_11))))))
          · refine lv_lload hx hb dX2_lineBetween_90 (lv_at hl 1 rfl) ?_
            refine lv_ldc2 (v := (7 : Int64)) hx hb hown (hw _ bw1274) dX2_lineBetween_92 ?_
            refine lv_ldiv hx hb dX2_lineBetween_95 (by decide) ?_
            exact re_l hx hb hr hk dX2_lineBetween_96 (el (Eq.trans (if_neg c_1) (Eq.trans (if_pos c_7) (Eq.trans (if_neg c_8) (Eq.trans (if_pos c_10) (if_pos c_11))))))
        · refine lv_lload hx hb dX2_lineBetween_70 (lv_at hl 1 rfl) ?_
          refine lv_lconst (v := (1 : Int64)) hx hb dX2_lineBetween_72 ql_1 ?_
          refine lv_ladd hx hb dX2_lineBetween_73 ?_
          refine lv_lstore (lv' := [(4, .long (((fX2_dayNow T p1) - (fX2_dayNow T p0)) + (1 : Int64))), (6, .long ((mt T p1.toNatClampNeg) - (mt T p0.toNatClampNeg))), (0, .ref (b 0)), (1, .int p0), (2, .int p1), (3, .int p2)]) hx hb dX2_lineBetween_74 hl (Nat.le_of_ble_eq_true rfl) rfl (fun ls hl => ?_)
          refine lv_lload hx hb dX2_lineBetween_76 (lv_at hl 1 rfl) ?_
          refine lv_ldc2 (v := (86400000000000 : Int64)) hx hb hown (hw _ bw1360) dX2_lineBetween_78 ?_
          refine lv_lsub hx hb dX2_lineBetween_81 ?_
          refine lv_lstore (lv' := [(6, .long (((mt T p1.toNatClampNeg) - (mt T p0.toNatClampNeg)) - (86400000000000 : Int64))), (4, .long (((fX2_dayNow T p1) - (fX2_dayNow T p0)) + (1 : Int64))), (0, .ref (b 0)), (1, .int p0), (2, .int p1), (3, .int p2)]) hx hb dX2_lineBetween_82 hl (Nat.le_of_ble_eq_true rfl) rfl (fun ls hl => ?_)
          refine lv_iload_n hx hb dX2_lineBetween_84 rfl (lv_at hl 5 rfl) ?_
          refine lv_bipush (v := (8 : Int32)) hx hb dX2_lineBetween_85 qb_8 ?_
          refine lv_icmp_ne (tgt := 97) hx hb dX2_lineBetween_87 (by decide) (fun c_12 => ?_) (fun c_12 => ?_)
          · refine lv_lload hx hb dX2_lineBetween_97 (lv_at hl 1 rfl) ?_
            refine lv_ldc2 (v := (86400000000000 : Int64)) hx hb hown (hw _ bw1360) dX2_lineBetween_99 ?_
            refine lv_iload_n hx hb dX2_lineBetween_102 rfl (lv_at hl 5 rfl) ?_
            refine rcSl (as := [.int p2]) (rest := [.long (86400000000000 : Int64), .long (((fX2_dayNow T p1) - (fX2_dayNow T p0)) + (1 : Int64))]) C (c_X2_nanosOf l G p2) F_X2_nanosOf rfl bw1354 bw1355 hE vpn hl.1 dX2_lineBetween_103 ⟨Nat.le_of_ble_eq_true rfl, Nat.le_of_ble_eq_true rfl⟩ rfl (Nat.le_of_ble_eq_true rfl) ⟨Nat.zero_le _, Nat.zero_le _⟩ ?_
            refine lv_ldiv hx hb dX2_lineBetween_106 (nz_nanosOf p2) ?_
            refine lv_lmul hx hb dX2_lineBetween_107 ?_
            refine lv_lload hx hb dX2_lineBetween_108 (lv_at hl 0 rfl) ?_
            refine lv_iload_n hx hb dX2_lineBetween_110 rfl (lv_at hl 5 rfl) ?_
            refine rcSl (as := [.int p2]) (rest := [.long (((mt T p1.toNatClampNeg) - (mt T p0.toNatClampNeg)) - (86400000000000 : Int64)), .long ((((fX2_dayNow T p1) - (fX2_dayNow T p0)) + (1 : Int64)) * ((86400000000000 : Int64) / (fX2_nanosOf p2)))]) C (c_X2_nanosOf l G p2) F_X2_nanosOf rfl bw1354 bw1355 hE vpn hl.1 dX2_lineBetween_111 ⟨Nat.le_of_ble_eq_true rfl, Nat.le_of_ble_eq_true rfl⟩ rfl (Nat.le_of_ble_eq_true rfl) ⟨Nat.zero_le _, Nat.zero_le _⟩ ?_
            refine lv_ldiv hx hb dX2_lineBetween_114 (nz_nanosOf p2) ?_
            refine lv_ladd hx hb dX2_lineBetween_115 ?_
            exact re_l hx hb hr hk dX2_lineBetween_116 (el (Eq.trans (if_neg c_1) (Eq.trans (if_pos c_7) (Eq.trans (if_neg c_8) (Eq.trans (if_neg c_10) (if_neg c_12))))))
          · refine lv_lload hx hb dX2_lineBetween_90 (lv_at hl 1 rfl) ?_
            refine lv_ldc2 (v := (7 : Int64)) hx hb hown (hw _ bw1274) dX2_lineBetween_92 ?_
            refine lv_ldiv hx hb dX2_lineBetween_95 (by decide) ?_
            exact re_l hx hb hr hk dX2_lineBetween_96 (el (Eq.trans (if_neg c_1) (Eq.trans (if_pos c_7) (Eq.trans (if_neg c_8) (Eq.trans (if_neg c_10) (if_pos c_12))))))
    · refine lv_lload hx hb dX2_lineBetween_42 (lv_at hl 1 rfl) ?_
      refine lv_lconst (v := (1 : Int64)) hx hb dX2_lineBetween_44 ql_1 ?_
      refine lv_lsub hx hb dX2_lineBetween_45 ?_
      refine lv_lstore (lv' := [(4, .long (((fX2_dayNow T p1) - (fX2_dayNow T p0)) - (1 : Int64))), (6, .long ((mt T p1.toNatClampNeg) - (mt T p0.toNatClampNeg))), (0, .ref (b 0)), (1, .int p0), (2, .int p1), (3, .int p2)]) hx hb dX2_lineBetween_46 hl (Nat.le_of_ble_eq_true rfl) rfl (fun ls hl => ?_)
      refine lv_lload hx hb dX2_lineBetween_48 (lv_at hl 1 rfl) ?_
      refine lv_ldc2 (v := (86400000000000 : Int64)) hx hb hown (hw _ bw1360) dX2_lineBetween_50 ?_
      refine lv_ladd hx hb dX2_lineBetween_53 ?_
      refine lv_lstore (lv' := [(6, .long (((mt T p1.toNatClampNeg) - (mt T p0.toNatClampNeg)) + (86400000000000 : Int64))), (4, .long (((fX2_dayNow T p1) - (fX2_dayNow T p0)) - (1 : Int64))), (0, .ref (b 0)), (1, .int p0), (2, .int p1), (3, .int p2)]) hx hb dX2_lineBetween_54 hl (Nat.le_of_ble_eq_true rfl) rfl (fun ls hl => ?_)
      refine lv_lload hx hb dX2_lineBetween_56 (lv_at hl 1 rfl) ?_
      refine lv_lconst (v := (0 : Int64)) hx hb dX2_lineBetween_58 ql_0 ?_
      refine W.lcmp hx hb dX2_lineBetween_59 ?_
      refine lv_if_ge (tgt := 84) hx hb dX2_lineBetween_60 (by decide) (fun c_13 => ?_) (fun c_13 => ?_)
      · refine lv_iload_n hx hb dX2_lineBetween_84 rfl (lv_at hl 5 rfl) ?_
        refine lv_bipush (v := (8 : Int32)) hx hb dX2_lineBetween_85 qb_8 ?_
        refine lv_icmp_ne (tgt := 97) hx hb dX2_lineBetween_87 (by decide) (fun c_14 => ?_) (fun c_14 => ?_)
        · refine lv_lload hx hb dX2_lineBetween_97 (lv_at hl 1 rfl) ?_
          refine lv_ldc2 (v := (86400000000000 : Int64)) hx hb hown (hw _ bw1360) dX2_lineBetween_99 ?_
          refine lv_iload_n hx hb dX2_lineBetween_102 rfl (lv_at hl 5 rfl) ?_
          refine rcSl (as := [.int p2]) (rest := [.long (86400000000000 : Int64), .long (((fX2_dayNow T p1) - (fX2_dayNow T p0)) - (1 : Int64))]) C (c_X2_nanosOf l G p2) F_X2_nanosOf rfl bw1354 bw1355 hE vpn hl.1 dX2_lineBetween_103 ⟨Nat.le_of_ble_eq_true rfl, Nat.le_of_ble_eq_true rfl⟩ rfl (Nat.le_of_ble_eq_true rfl) ⟨Nat.zero_le _, Nat.zero_le _⟩ ?_
          refine lv_ldiv hx hb dX2_lineBetween_106 (nz_nanosOf p2) ?_
          refine lv_lmul hx hb dX2_lineBetween_107 ?_
          refine lv_lload hx hb dX2_lineBetween_108 (lv_at hl 0 rfl) ?_
          refine lv_iload_n hx hb dX2_lineBetween_110 rfl (lv_at hl 5 rfl) ?_
          refine rcSl (as := [.int p2]) (rest := [.long (((mt T p1.toNatClampNeg) - (mt T p0.toNatClampNeg)) + (86400000000000 : Int64)), .long ((((fX2_dayNow T p1) - (fX2_dayNow T p0)) - (1 : Int64)) * ((86400000000000 : Int64) / (fX2_nanosOf p2)))]) C (c_X2_nanosOf l G p2) F_X2_nanosOf rfl bw1354 bw1355 hE vpn hl.1 dX2_lineBetween_111 ⟨Nat.le_of_ble_eq_true rfl, Nat.le_of_ble_eq_true rfl⟩ rfl (Nat.le_of_ble_eq_true rfl) ⟨Nat.zero_le _, Nat.zero_le _⟩ ?_
          refine lv_ldiv hx hb dX2_lineBetween_114 (nz_nanosOf p2) ?_
          refine lv_ladd hx hb dX2_lineBetween_115 ?_
          exact re_l hx hb hr hk dX2_lineBetween_116 (el (Eq.trans (if_neg c_1) (Eq.trans (if_neg c_7) (Eq.trans (if_pos c_13) (if_neg c_14)))))
        · refine lv_lload hx hb dX2_lineBetween_90 (lv_at hl 1 rfl) ?_
          refine lv_ldc2 (v := (7 : Int64)) hx hb hown (hw _ bw1274) dX2_lineBetween_92 ?_
          refine lv_ldiv hx hb dX2_lineBetween_95 (by decide) ?_
          exact re_l hx hb hr hk dX2_lineBetween_96 (el (Eq.trans (if_neg c_1) (Eq.trans (if_neg c_7) (Eq.trans (if_pos c_13) (if_pos c_14)))))
      · refine lv_lload hx hb dX2_lineBetween_63 (lv_at hl 0 rfl) ?_
        refine lv_lconst (v := (0 : Int64)) hx hb dX2_lineBetween_65 ql_0 ?_
        refine W.lcmp hx hb dX2_lineBetween_66 ?_
        refine lv_if_le (tgt := 84) hx hb dX2_lineBetween_67 (by decide) (fun c_15 => ?_) (fun c_15 => ?_)
        · refine lv_iload_n hx hb dX2_lineBetween_84 rfl (lv_at hl 5 rfl) ?_
          refine lv_bipush (v := (8 : Int32)) hx hb dX2_lineBetween_85 qb_8 ?_
          refine lv_icmp_ne (tgt := 97) hx hb dX2_lineBetween_87 (by decide) (fun c_16 => ?_) (fun c_16 => ?_)
          · refine lv_lload hx hb dX2_lineBetween_97 (lv_at hl 1 rfl) ?_
            refine lv_ldc2 (v := (86400000000000 : Int64)) hx hb hown (hw _ bw1360) dX2_lineBetween_99 ?_
            refine lv_iload_n hx hb dX2_lineBetween_102 rfl (lv_at hl 5 rfl) ?_
            refine rcSl (as := [.int p2]) (rest := [.long (86400000000000 : Int64), .long (((fX2_dayNow T p1) - (fX2_dayNow T p0)) - (1 : Int64))]) C (c_X2_nanosOf l G p2) F_X2_nanosOf rfl bw1354 bw1355 hE vpn hl.1 dX2_lineBetween_103 ⟨Nat.le_of_ble_eq_true rfl, Nat.le_of_ble_eq_true rfl⟩ rfl (Nat.le_of_ble_eq_true rfl) ⟨Nat.zero_le _, Nat.zero_le _⟩ ?_
            refine lv_ldiv hx hb dX2_lineBetween_106 (nz_nanosOf p2) ?_
            refine lv_lmul hx hb dX2_lineBetween_107 ?_
            refine lv_lload hx hb dX2_lineBetween_108 (lv_at hl 0 rfl) ?_
            refine lv_iload_n hx hb dX2_lineBetween_110 rfl (lv_at hl 5 rfl) ?_
            refine rcSl (as := [.int p2]) (rest := [.long (((mt T p1.toNatClampNeg) - (mt T p0.toNatClampNeg)) + (86400000000000 : Int64)), .long ((((fX2_dayNow T p1) - (fX2_dayNow T p0)) - (1 : Int64)) * ((86400000000000 : Int64) / (fX2_nanosOf p2)))]) C (c_X2_nanosOf l G p2) F_X2_nanosOf rfl bw1354 bw1355 hE vpn hl.1 dX2_lineBetween_111 ⟨Nat.le_of_ble_eq_true rfl, Nat.le_of_ble_eq_true rfl⟩ rfl (Nat.le_of_ble_eq_true rfl) ⟨Nat.zero_le _, Nat.zero_le _⟩ ?_
            refine lv_ldiv hx hb dX2_lineBetween_114 (nz_nanosOf p2) ?_
            refine lv_ladd hx hb dX2_lineBetween_115 ?_
            exact re_l hx hb hr hk dX2_lineBetween_116 (el (Eq.trans (if_neg c_1) (Eq.trans (if_neg c_7) (Eq.trans (if_neg c_13) (Eq.trans (if_pos c_15) (if_neg c_16))))))
          · refine lv_lload hx hb dX2_lineBetween_90 (lv_at hl 1 rfl) ?_
            refine lv_ldc2 (v := (7 : Int64)) hx hb hown (hw _ bw1274) dX2_lineBetween_92 ?_
            refine lv_ldiv hx hb dX2_lineBetween_95 (by decide) ?_
            exact re_l hx hb hr hk dX2_lineBetween_96 (el (Eq.trans (if_neg c_1) (Eq.trans (if_neg c_7) (Eq.trans (if_neg c_13) (Eq.trans (if_pos c_15) (if_pos c_16))))))
        · refine lv_lload hx hb dX2_lineBetween_70 (lv_at hl 1 rfl) ?_
          refine lv_lconst (v := (1 : Int64)) hx hb dX2_lineBetween_72 ql_1 ?_
          refine lv_ladd hx hb dX2_lineBetween_73 ?_
          refine lv_lstore (lv' := [(4, .long ((((fX2_dayNow T p1) - (fX2_dayNow T p0)) - (1 : Int64)) + (1 : Int64))), (6, .long (((mt T p1.toNatClampNeg) - (mt T p0.toNatClampNeg)) + (86400000000000 : Int64))), (0, .ref (b 0)), (1, .int p0), (2, .int p1), (3, .int p2)]) hx hb dX2_lineBetween_74 hl (Nat.le_of_ble_eq_true rfl) rfl (fun ls hl => ?_)
          refine lv_lload hx hb dX2_lineBetween_76 (lv_at hl 1 rfl) ?_
          refine lv_ldc2 (v := (86400000000000 : Int64)) hx hb hown (hw _ bw1360) dX2_lineBetween_78 ?_
          refine lv_lsub hx hb dX2_lineBetween_81 ?_
          refine lv_lstore (lv' := [(6, .long ((((mt T p1.toNatClampNeg) - (mt T p0.toNatClampNeg)) + (86400000000000 : Int64)) - (86400000000000 : Int64))), (4, .long ((((fX2_dayNow T p1) - (fX2_dayNow T p0)) - (1 : Int64)) + (1 : Int64))), (0, .ref (b 0)), (1, .int p0), (2, .int p1), (3, .int p2)]) hx hb dX2_lineBetween_82 hl (Nat.le_of_ble_eq_true rfl) rfl (fun ls hl => ?_)
          refine lv_iload_n hx hb dX2_lineBetween_84 rfl (lv_at hl 5 rfl) ?_
          refine lv_bipush (v := (8 : Int32)) hx hb dX2_lineBetween_85 qb_8 ?_
          refine lv_icmp_ne (tgt := 97) hx hb dX2_lineBetween_87 (by decide) (fun c_17 => ?_) (fun c_17 => ?_)
          · refine lv_lload hx hb dX2_lineBetween_97 (lv_at hl 1 rfl) ?_
            refine lv_ldc2 (v := (86400000000000 : Int64)) hx hb hown (hw _ bw1360) dX2_lineBetween_99 ?_
            refine lv_iload_n hx hb dX2_lineBetween_102 rfl (lv_at hl 5 rfl) ?_
            refine rcSl (as := [.int p2]) (rest := [.long (86400000000000 : Int64), .long ((((fX2_dayNow T p1) - (fX2_dayNow T p0)) - (1 : Int64)) + (1 : Int64))]) C (c_X2_nanosOf l G p2) F_X2_nanosOf rfl bw1354 bw1355 hE vpn hl.1 dX2_lineBetween_103 ⟨Nat.le_of_ble_eq_true rfl, Nat.le_of_ble_eq_true rfl⟩ rfl (Nat.le_of_ble_eq_true rfl) ⟨Nat.zero_le _, Nat.zero_le _⟩ ?_
            refine lv_ldiv hx hb dX2_lineBetween_106 (nz_nanosOf p2) ?_
            refine lv_lmul hx hb dX2_lineBetween_107 ?_
            refine lv_lload hx hb dX2_lineBetween_108 (lv_at hl 0 rfl) ?_
            refine lv_iload_n hx hb dX2_lineBetween_110 rfl (lv_at hl 5 rfl) ?_
            refine rcSl (as := [.int p2]) (rest := [.long ((((mt T p1.toNatClampNeg) - (mt T p0.toNatClampNeg)) + (86400000000000 : Int64)) - (86400000000000 : Int64)), .long (((((fX2_dayNow T p1) - (fX2_dayNow T p0)) - (1 : Int64)) + (1 : Int64)) * ((86400000000000 : Int64) / (fX2_nanosOf p2)))]) C (c_X2_nanosOf l G p2) F_X2_nanosOf rfl bw1354 bw1355 hE vpn hl.1 dX2_lineBetween_111 ⟨Nat.le_of_ble_eq_true rfl, Nat.le_of_ble_eq_true rfl⟩ rfl (Nat.le_of_ble_eq_true rfl) ⟨Nat.zero_le _, Nat.zero_le _⟩ ?_
            refine lv_ldiv hx hb dX2_lineBetween_114 (nz_nanosOf p2) ?_
            refine lv_ladd hx hb dX2_lineBetween_115 ?_
            exact re_l hx hb hr hk dX2_lineBetween_116 (el (Eq.trans (if_neg c_1) (Eq.trans (if_neg c_7) (Eq.trans (if_neg c_13) (Eq.trans (if_neg c_15) (if_neg c_17))))))
          · refine lv_lload hx hb dX2_lineBetween_90 (lv_at hl 1 rfl) ?_
            refine lv_ldc2 (v := (7 : Int64)) hx hb hown (hw _ bw1274) dX2_lineBetween_92 ?_
            refine lv_ldiv hx hb dX2_lineBetween_95 (by decide) ?_
            exact re_l hx hb hr hk dX2_lineBetween_96 (el (Eq.trans (if_neg c_1) (Eq.trans (if_neg c_7) (Eq.trans (if_neg c_13) (Eq.trans (if_neg c_15) (if_pos c_17))))))

set_option maxRecDepth 100000 in
set_option maxHeartbeats 4000000 in
theorem c_X2_monthsOn (l : Launch) (G : GT) (b : Nat → Nat) (T : SM) (p0 : Int32) (p1 : Int32) (h0 : vp_in p0 6) (h1 : vp_in p1 6) : RO l G yX2_monthsOn cX2_monthsOn 6 (some .long) 1 [.ref (b 0), .int p0, .int p1] (wM G b T) (some (.long (fX2_monthsOn T p0 p1))) := by
  refine RO.ofW (own := RX2) rfl (plainFor_of_name pnN_RX2) (Nat.le_of_ble_eq_true rfl) ?_
  intro p e s m below meth c C hr hk hE hP ls hl
  have hx := C.1
  have hb := C.2.1
  have hown := C.2.2.2.1
  have hw := C.2.2.2.2
  have hl : lv_has ls 6 [(0, .ref (b 0)), (1, .int p0), (2, .int p1)] := hl
  refine lv_ldc2 (v := (12 : Int64)) hx hb hown (hw _ bw1368) dX2_monthsOn_0 ?_
  refine lv_aload_n hx hb dX2_monthsOn_3 rfl (lv_at hl 0 rfl) ?_
  refine va_get (D := gD G) (cl := vwCl) (tys := gT G) (ci := 4) (v := .ref (b 1)) (C := RX2) (T := TX2) (N := 12) hx hb hw inB_X2 hown hE.K hP 0 rfl rfl 1 (by decide) (hw _ bw1164) (fun _ h9 => h9) rfl dX2_monthsOn_4 ?_
  refine lv_iload_n hx hb dX2_monthsOn_7 rfl (lv_at hl 2 rfl) ?_
  refine va_iald (tys := gT G) hx hb hE.K hP 1 0 rfl rfl h1 dX2_monthsOn_8 ?_
  refine lv_aload_n hx hb dX2_monthsOn_9 rfl (lv_at hl 0 rfl) ?_
  refine va_get (D := gD G) (cl := vwCl) (tys := gT G) (ci := 4) (v := .ref (b 1)) (C := RX2) (T := TX2) (N := 12) hx hb hw inB_X2 hown hE.K hP 0 rfl rfl 1 (by decide) (hw _ bw1164) (fun _ h9 => h9) rfl dX2_monthsOn_10 ?_
  refine lv_iload_n hx hb dX2_monthsOn_13 rfl (lv_at hl 1 rfl) ?_
  refine va_iald (tys := gT G) hx hb hE.K hP 1 0 rfl rfl h0 dX2_monthsOn_14 ?_
  refine lv_isub hx hb dX2_monthsOn_15 ?_
  refine lv_i2l (v := (((my T p1.toNatClampNeg) - (my T p0.toNatClampNeg)).toInt64)) hx hb dX2_monthsOn_16 (by first | rfl | decide) ?_
  refine lv_lmul hx hb dX2_monthsOn_17 ?_
  refine lv_aload_n hx hb dX2_monthsOn_18 rfl (lv_at hl 0 rfl) ?_
  refine va_get (D := gD G) (cl := vwCl) (tys := gT G) (ci := 4) (v := .ref (b 2)) (C := RX2) (T := TX2) (N := 12) hx hb hw inB_X2 hown hE.K hP 0 rfl rfl 2 (by decide) (hw _ bw1165) (fun _ h9 => h9) rfl dX2_monthsOn_19 ?_
  refine lv_iload_n hx hb dX2_monthsOn_22 rfl (lv_at hl 2 rfl) ?_
  refine va_iald (tys := gT G) hx hb hE.K hP 2 0 rfl rfl h1 dX2_monthsOn_23 ?_
  refine lv_i2l (v := ((mm T p1.toNatClampNeg).toInt64)) hx hb dX2_monthsOn_24 (by first | rfl | decide) ?_
  refine lv_ladd hx hb dX2_monthsOn_25 ?_
  refine lv_aload_n hx hb dX2_monthsOn_26 rfl (lv_at hl 0 rfl) ?_
  refine va_get (D := gD G) (cl := vwCl) (tys := gT G) (ci := 4) (v := .ref (b 2)) (C := RX2) (T := TX2) (N := 12) hx hb hw inB_X2 hown hE.K hP 0 rfl rfl 2 (by decide) (hw _ bw1165) (fun _ h9 => h9) rfl dX2_monthsOn_27 ?_
  refine lv_iload_n hx hb dX2_monthsOn_30 rfl (lv_at hl 1 rfl) ?_
  refine va_iald (tys := gT G) hx hb hE.K hP 2 0 rfl rfl h0 dX2_monthsOn_31 ?_
  refine lv_i2l (v := ((mm T p0.toNatClampNeg).toInt64)) hx hb dX2_monthsOn_32 (by first | rfl | decide) ?_
  refine lv_lsub hx hb dX2_monthsOn_33 ?_
  refine lv_lstore_n (lv' := [(3, .long ((((12 : Int64) * (((my T p1.toNatClampNeg) - (my T p0.toNatClampNeg)).toInt64)) + ((mm T p1.toNatClampNeg).toInt64)) - ((mm T p0.toNatClampNeg).toInt64))), (0, .ref (b 0)), (1, .int p0), (2, .int p1)]) hx hb dX2_monthsOn_34 rfl hl (Nat.le_of_ble_eq_true rfl) rfl (fun ls hl => ?_)
  refine lv_aload_n hx hb dX2_monthsOn_35 rfl (lv_at hl 1 rfl) ?_
  refine va_get (D := gD G) (cl := vwCl) (tys := gT G) (ci := 4) (v := .ref (b 3)) (C := RX2) (T := TX2) (N := 12) hx hb hw inB_X2 hown hE.K hP 0 rfl rfl 3 (by decide) (hw _ bw1166) (fun _ h9 => h9) rfl dX2_monthsOn_36 ?_
  refine lv_iload_n hx hb dX2_monthsOn_39 rfl (lv_at hl 3 rfl) ?_
  refine va_iald (tys := gT G) hx hb hE.K hP 3 0 rfl rfl h1 dX2_monthsOn_40 ?_
  refine lv_aload_n hx hb dX2_monthsOn_41 rfl (lv_at hl 1 rfl) ?_
  refine va_get (D := gD G) (cl := vwCl) (tys := gT G) (ci := 4) (v := .ref (b 3)) (C := RX2) (T := TX2) (N := 12) hx hb hw inB_X2 hown hE.K hP 0 rfl rfl 3 (by decide) (hw _ bw1166) (fun _ h9 => h9) rfl dX2_monthsOn_42 ?_
  refine lv_iload_n hx hb dX2_monthsOn_45 rfl (lv_at hl 2 rfl) ?_
  refine va_iald (tys := gT G) hx hb hE.K hP 3 0 rfl rfl h0 dX2_monthsOn_46 ?_
  refine lv_icmp_lt (tgt := 81) hx hb dX2_monthsOn_47 (by decide) (fun c_1 => ?_) (fun c_1 => ?_)
  · refine lv_iconst (v := (1 : Int32)) hx hb dX2_monthsOn_81 qi_1 ?_
    refine lv_goto (tgt := 86) hx hb dX2_monthsOn_82 (by decide) ?_
    refine lv_istore (lv' := [(5, .int (1 : Int32)), (3, .long ((((12 : Int64) * (((my T p1.toNatClampNeg) - (my T p0.toNatClampNeg)).toInt64)) + ((mm T p1.toNatClampNeg).toInt64)) - ((mm T p0.toNatClampNeg).toInt64))), (0, .ref (b 0)), (1, .int p0), (2, .int p1)]) hx hb dX2_monthsOn_86 hl (Nat.le_of_ble_eq_true rfl) rfl (fun ls hl => ?_)
    refine lv_iload hx hb dX2_monthsOn_88 (lv_at hl 0 rfl) ?_
    refine lv_if_eq (tgt := 99) hx hb dX2_monthsOn_90 (by decide) (fun c_x => absurd c_x (by decide)) (fun _ => ?_)
    refine lv_lload_n hx hb dX2_monthsOn_93 rfl (lv_at hl 1 rfl) ?_
    refine lv_lconst (v := (1 : Int64)) hx hb dX2_monthsOn_94 ql_1 ?_
    refine lv_lsub hx hb dX2_monthsOn_95 ?_
    refine lv_goto (tgt := 100) hx hb dX2_monthsOn_96 (by decide) ?_
    exact re_l hx hb hr hk dX2_monthsOn_100 (el (if_pos c_1))
  · refine lv_aload_n hx hb dX2_monthsOn_50 rfl (lv_at hl 1 rfl) ?_
    refine va_get (D := gD G) (cl := vwCl) (tys := gT G) (ci := 4) (v := .ref (b 3)) (C := RX2) (T := TX2) (N := 12) hx hb hw inB_X2 hown hE.K hP 0 rfl rfl 3 (by decide) (hw _ bw1166) (fun _ h9 => h9) rfl dX2_monthsOn_51 ?_
    refine lv_iload_n hx hb dX2_monthsOn_54 rfl (lv_at hl 3 rfl) ?_
    refine va_iald (tys := gT G) hx hb hE.K hP 3 0 rfl rfl h1 dX2_monthsOn_55 ?_
    refine lv_aload_n hx hb dX2_monthsOn_56 rfl (lv_at hl 1 rfl) ?_
    refine va_get (D := gD G) (cl := vwCl) (tys := gT G) (ci := 4) (v := .ref (b 3)) (C := RX2) (T := TX2) (N := 12) hx hb hw inB_X2 hown hE.K hP 0 rfl rfl 3 (by decide) (hw _ bw1166) (fun _ h9 => h9) rfl dX2_monthsOn_57 ?_
    refine lv_iload_n hx hb dX2_monthsOn_60 rfl (lv_at hl 2 rfl) ?_
    refine va_iald (tys := gT G) hx hb hE.K hP 3 0 rfl rfl h0 dX2_monthsOn_61 ?_
    refine lv_icmp_ne (tgt := 85) hx hb dX2_monthsOn_62 (by decide) (fun c_2 => ?_) (fun c_2 => ?_)
    · refine lv_iconst (v := (0 : Int32)) hx hb dX2_monthsOn_85 qi_0 ?_
      refine lv_istore (lv' := [(5, .int (0 : Int32)), (3, .long ((((12 : Int64) * (((my T p1.toNatClampNeg) - (my T p0.toNatClampNeg)).toInt64)) + ((mm T p1.toNatClampNeg).toInt64)) - ((mm T p0.toNatClampNeg).toInt64))), (0, .ref (b 0)), (1, .int p0), (2, .int p1)]) hx hb dX2_monthsOn_86 hl (Nat.le_of_ble_eq_true rfl) rfl (fun ls hl => ?_)
      refine lv_iload hx hb dX2_monthsOn_88 (lv_at hl 0 rfl) ?_
      refine lv_if_eq (tgt := 99) hx hb dX2_monthsOn_90 (by decide) (fun _ => ?_) (fun c_x => absurd (show (0 : Int32) = 0 from by decide) c_x)
      refine lv_lload_n hx hb dX2_monthsOn_99 rfl (lv_at hl 1 rfl) ?_
      exact re_l hx hb hr hk dX2_monthsOn_100 (el (Eq.trans (if_neg c_1) (if_neg c_2)))
    · refine lv_aload_n hx hb dX2_monthsOn_65 rfl (lv_at hl 1 rfl) ?_
      refine va_get (D := gD G) (cl := vwCl) (tys := gT G) (ci := 4) (v := .ref (b 4)) (C := RX2) (T := TX2) (N := 12) hx hb hw inB_X2 hown hE.K hP 0 rfl rfl 4 (by decide) (hw _ bw1167) (fun _ h9 => h9) rfl dX2_monthsOn_66 ?_
      refine lv_iload_n hx hb dX2_monthsOn_69 rfl (lv_at hl 3 rfl) ?_
      refine va_lald (tys := gT G) hx hb hE.K hP 4 1 rfl rfl h1 dX2_monthsOn_70 ?_
      refine lv_aload_n hx hb dX2_monthsOn_71 rfl (lv_at hl 1 rfl) ?_
      refine va_get (D := gD G) (cl := vwCl) (tys := gT G) (ci := 4) (v := .ref (b 4)) (C := RX2) (T := TX2) (N := 12) hx hb hw inB_X2 hown hE.K hP 0 rfl rfl 4 (by decide) (hw _ bw1167) (fun _ h9 => h9) rfl dX2_monthsOn_72 ?_
      refine lv_iload_n hx hb dX2_monthsOn_75 rfl (lv_at hl 2 rfl) ?_
      refine va_lald (tys := gT G) hx hb hE.K hP 4 1 rfl rfl h0 dX2_monthsOn_76 ?_
      refine W.lcmp hx hb dX2_monthsOn_77 ?_
      refine k_dia (b := 0 ≤ (lg_cmp (mt T p1.toNatClampNeg) (mt T p0.toNatClampNeg))) (x := (0 : Int32)) (y := (1 : Int32)) (Wg := fun z9 => W _ _ _ _ _ _ _ _ _ _ _ _ _ _ _ (F0 m 86 ls (.int z9 :: _))) ?_ (fun t9 f9 => lv_if_ge (tgt := 85) hx hb dX2_monthsOn_78 (by decide) (fun c_x => lv_iconst (v := (0 : Int32)) hx hb dX2_monthsOn_85 qi_0 (t9 c_x)) (fun c_x => lv_iconst (v := (1 : Int32)) hx hb dX2_monthsOn_81 qi_1 (lv_goto (tgt := 86) hx hb dX2_monthsOn_82 (by decide) (f9 c_x))))
      refine lv_istore (lv' := [(5, .int (if 0 ≤ (lg_cmp (mt T p1.toNatClampNeg) (mt T p0.toNatClampNeg)) then (0 : Int32) else (1 : Int32))), (3, .long ((((12 : Int64) * (((my T p1.toNatClampNeg) - (my T p0.toNatClampNeg)).toInt64)) + ((mm T p1.toNatClampNeg).toInt64)) - ((mm T p0.toNatClampNeg).toInt64))), (0, .ref (b 0)), (1, .int p0), (2, .int p1)]) hx hb dX2_monthsOn_86 hl (Nat.le_of_ble_eq_true rfl) rfl (fun ls hl => ?_)
      refine lv_iload hx hb dX2_monthsOn_88 (lv_at hl 0 rfl) ?_
      refine lv_if_eq (tgt := 99) hx hb dX2_monthsOn_90 (by decide) (fun c_3 => ?_) (fun c_3 => ?_)
      · refine lv_lload_n hx hb dX2_monthsOn_99 rfl (lv_at hl 1 rfl) ?_
        exact re_l hx hb hr hk dX2_monthsOn_100 (el (Eq.trans (if_neg c_1) (Eq.trans (if_pos c_2) (if_pos c_3))))
      · refine lv_lload_n hx hb dX2_monthsOn_93 rfl (lv_at hl 1 rfl) ?_
        refine lv_lconst (v := (1 : Int64)) hx hb dX2_monthsOn_94 ql_1 ?_
        refine lv_lsub hx hb dX2_monthsOn_95 ?_
        refine lv_goto (tgt := 100) hx hb dX2_monthsOn_96 (by decide) ?_
        exact re_l hx hb hr hk dX2_monthsOn_100 (el (Eq.trans (if_neg c_1) (Eq.trans (if_pos c_2) (if_neg c_3))))

set_option maxRecDepth 100000 in
set_option maxHeartbeats 4000000 in
theorem c_X2_monthsBack (l : Launch) (G : GT) (b : Nat → Nat) (T : SM) (p0 : Int32) (p1 : Int32) (h0 : vp_in p0 6) (h1 : vp_in p1 6) : RO l G yX2_monthsBack cX2_monthsBack 3 (some .long) 2 [.ref (b 0), .int p0, .int p1] (wM G b T) (some (.long (fX2_monthsBack T p0 p1))) := by
  refine RO.ofW (own := RX2) rfl (plainFor_of_name pnN_RX2) (Nat.le_of_ble_eq_true rfl) ?_
  intro p e s m below meth c C hr hk hE hP ls hl
  have hx := C.1
  have hb := C.2.1
  have hown := C.2.2.2.1
  have hw := C.2.2.2.2
  have hl : lv_has ls 3 [(0, .ref (b 0)), (1, .int p0), (2, .int p1)] := hl
  refine lv_aload_n hx hb dX2_monthsBack_0 rfl (lv_at hl 0 rfl) ?_
  refine lv_iload_n hx hb dX2_monthsBack_1 rfl (lv_at hl 2 rfl) ?_
  refine lv_iload_n hx hb dX2_monthsBack_2 rfl (lv_at hl 1 rfl) ?_
  refine rcVl (as := [.int p1, .int p0]) (rest := []) (cl := RX2) C (c_X2_monthsOn l G b T p1 p0 h1 h0) F_X2_monthsOn rfl bw1588 bw1590 bw51 hE hP (rv4 hE.K hP (q0 := 0) rfl) hl.1 dX2_monthsBack_3 ⟨Nat.le_of_ble_eq_true rfl, Nat.le_of_ble_eq_true rfl⟩ rfl (Nat.le_of_ble_eq_true rfl) ⟨Nat.zero_le _, Nat.zero_le _⟩ ?_
  exact re_l hx hb hr hk dX2_monthsBack_6 (el rfl)

set_option maxRecDepth 100000 in
set_option maxHeartbeats 4000000 in
theorem c_X2_likeOnes (l : Launch) (G : GT) (b : Nat → Nat) (T : SM) (hT : MO T) : RO l G yX2_likeOnes cX2_likeOnes 5 (some .int) 7 [.ref (b 0)] (wM G b T) (some (.int (fX2_likeOnes T))) := by
  refine RO.ofW (own := RX2) rfl (plainFor_of_name pnN_RX2) (Nat.le_of_ble_eq_true rfl) ?_
  intro p e s m below meth c C hr hk hE hP ls hl
  have hx := C.1
  have hb := C.2.1
  have hown := C.2.2.2.1
  have hw := C.2.2.2.2
  have hl : lv_has ls 5 [(0, .ref (b 0))] := hl
  refine lv_iconst (v := (0 : Int32)) hx hb dX2_likeOnes_0 qi_0 ?_
  refine lv_istore_n (lv' := [(1, .int (0 : Int32)), (0, .ref (b 0))]) hx hb dX2_likeOnes_1 rfl hl (Nat.le_of_ble_eq_true rfl) rfl (fun ls hl => ?_)
  refine lv_iconst (v := (1 : Int32)) hx hb dX2_likeOnes_2 qi_1 ?_
  refine lv_istore_n (lv' := [(2, .int (1 : Int32)), (1, .int (0 : Int32)), (0, .ref (b 0))]) hx hb dX2_likeOnes_3 rfl hl (Nat.le_of_ble_eq_true rfl) rfl (fun ls hl => ?_)
  refine lv_iload_n hx hb dX2_likeOnes_4 rfl (lv_at hl 0 rfl) ?_
  refine lv_bipush (v := (6 : Int32)) hx hb dX2_likeOnes_5 qb_6 ?_
  refine lv_icmp_ge (tgt := 63) hx hb dX2_likeOnes_7 (by decide) (fun c_x => absurd c_x (by decide)) (fun _ => ?_)
  refine lv_iconst (v := (0 : Int32)) hx hb dX2_likeOnes_10 qi_0 ?_
  refine lv_istore_n (lv' := [(3, .int (0 : Int32)), (2, .int (1 : Int32)), (1, .int (0 : Int32)), (0, .ref (b 0))]) hx hb dX2_likeOnes_11 rfl hl (Nat.le_of_ble_eq_true rfl) rfl (fun ls hl => ?_)
  refine lv_iconst (v := (0 : Int32)) hx hb dX2_likeOnes_12 qi_0 ?_
  refine lv_istore (lv' := [(4, .int (0 : Int32)), (3, .int (0 : Int32)), (2, .int (1 : Int32)), (1, .int (0 : Int32)), (0, .ref (b 0))]) hx hb dX2_likeOnes_13 hl (Nat.le_of_ble_eq_true rfl) rfl (fun ls hl => ?_)
  refine lv_iload hx hb dX2_likeOnes_15 (lv_at hl 0 rfl) ?_
  refine lv_iload_n hx hb dX2_likeOnes_17 rfl (lv_at hl 2 rfl) ?_
  refine lv_icmp_ge (tgt := 45) hx hb dX2_likeOnes_18 (by decide) (fun c_x => absurd c_x (by decide)) (fun _ => ?_)
  refine lv_iload_n hx hb dX2_likeOnes_21 rfl (lv_at hl 1 rfl) ?_
  refine lv_aload_n hx hb dX2_likeOnes_22 rfl (lv_at hl 4 rfl) ?_
  refine lv_iload_n hx hb dX2_likeOnes_23 rfl (lv_at hl 2 rfl) ?_
  refine lv_iload hx hb dX2_likeOnes_24 (lv_at hl 0 rfl) ?_
  refine rcVi (as := [.int (1 : Int32), .int (0 : Int32)]) (rest := [.int (0 : Int32)]) (cl := RX2) C (c_X2_order l G b T (1 : Int32) (0 : Int32) (vp_in_lit 1) (vp_in_lit 0) hT) F_X2_order rfl bw1561 bw1563 bw48 hE hP (rv4 hE.K hP (q0 := 0) rfl) hl.1 dX2_likeOnes_26 ⟨Nat.le_of_ble_eq_true rfl, Nat.le_of_ble_eq_true rfl⟩ rfl (Nat.le_of_ble_eq_true rfl) ⟨Nat.zero_le _, Nat.zero_le _⟩ ?_
  refine k_dia (b := (fX2_order T (1 : Int32) (0 : Int32)) = 0) (x := (1 : Int32)) (y := (0 : Int32)) (Wg := fun z9 => W _ _ _ _ _ _ _ _ _ _ _ _ _ _ _ (F0 m 37 ls (.int z9 :: _))) ?_ (fun t9 f9 => lv_if_ne (tgt := 36) hx hb dX2_likeOnes_29 (by decide) (fun c_x => lv_iconst (v := (0 : Int32)) hx hb dX2_likeOnes_36 qi_0 (f9 c_x)) (fun c_x => lv_iconst (v := (1 : Int32)) hx hb dX2_likeOnes_32 qi_1 (lv_goto (tgt := 37) hx hb dX2_likeOnes_33 (by decide) (t9 c_x))))
  refine lv_ior hx hb dX2_likeOnes_37 ?_
  refine lv_istore_n (lv' := [(3, .int ((0 : Int32) ||| (if (fX2_order T (1 : Int32) (0 : Int32)) = 0 then (1 : Int32) else (0 : Int32)))), (4, .int (0 : Int32)), (2, .int (1 : Int32)), (1, .int (0 : Int32)), (0, .ref (b 0))]) hx hb dX2_likeOnes_38 rfl hl (Nat.le_of_ble_eq_true rfl) rfl (fun ls hl => ?_)
  refine lv_iinc (v := (1 : Int32)) (lv' := [(4, .int (1 : Int32)), (3, .int ((0 : Int32) ||| (if (fX2_order T (1 : Int32) (0 : Int32)) = 0 then (1 : Int32) else (0 : Int32)))), (2, .int (1 : Int32)), (1, .int (0 : Int32)), (0, .ref (b 0))]) hx hb dX2_likeOnes_39 hl (k := 1) rfl (by first | rfl | decide) (Nat.le_of_ble_eq_true rfl) rfl (fun ls hl => ?_)
  refine lv_goto (tgt := 15) hx hb dX2_likeOnes_42 (by decide) ?_
  refine lv_iload hx hb dX2_likeOnes_15 (lv_at hl 0 rfl) ?_
  refine lv_iload_n hx hb dX2_likeOnes_17 rfl (lv_at hl 2 rfl) ?_
  refine lv_icmp_ge (tgt := 45) hx hb dX2_likeOnes_18 (by decide) (fun _ => ?_) (fun c_x => absurd (show (1 : Int32) ≤ (1 : Int32) from by decide) c_x)
  refine lv_iload_n hx hb dX2_likeOnes_45 rfl (lv_at hl 3 rfl) ?_
  refine lv_iload_n hx hb dX2_likeOnes_46 rfl (lv_at hl 1 rfl) ?_
  refine k_dia (b := ((0 : Int32) ||| (if (fX2_order T (1 : Int32) (0 : Int32)) = 0 then (1 : Int32) else (0 : Int32))) = 0) (x := (0 : Int32)) (y := (1 : Int32)) (Wg := fun z9 => W _ _ _ _ _ _ _ _ _ _ _ _ _ _ _ (F0 m 55 ls (.int z9 :: _))) ?_ (fun t9 f9 => lv_if_eq (tgt := 54) hx hb dX2_likeOnes_47 (by decide) (fun c_x => lv_iconst (v := (0 : Int32)) hx hb dX2_likeOnes_54 qi_0 (t9 c_x)) (fun c_x => lv_iconst (v := (1 : Int32)) hx hb dX2_likeOnes_50 qi_1 (lv_goto (tgt := 55) hx hb dX2_likeOnes_51 (by decide) (f9 c_x))))
  refine lv_iadd hx hb dX2_likeOnes_55 ?_
  refine lv_istore_n (lv' := [(1, .int ((0 : Int32) + (if ((0 : Int32) ||| (if (fX2_order T (1 : Int32) (0 : Int32)) = 0 then (1 : Int32) else (0 : Int32))) = 0 then (0 : Int32) else (1 : Int32)))), (4, .int (1 : Int32)), (3, .int ((0 : Int32) ||| (if (fX2_order T (1 : Int32) (0 : Int32)) = 0 then (1 : Int32) else (0 : Int32)))), (2, .int (1 : Int32)), (0, .ref (b 0))]) hx hb dX2_likeOnes_56 rfl hl (Nat.le_of_ble_eq_true rfl) rfl (fun ls hl => ?_)
  refine lv_iinc (v := (2 : Int32)) (lv' := [(2, .int (2 : Int32)), (1, .int ((0 : Int32) + (if ((0 : Int32) ||| (if (fX2_order T (1 : Int32) (0 : Int32)) = 0 then (1 : Int32) else (0 : Int32))) = 0 then (0 : Int32) else (1 : Int32)))), (4, .int (1 : Int32)), (3, .int ((0 : Int32) ||| (if (fX2_order T (1 : Int32) (0 : Int32)) = 0 then (1 : Int32) else (0 : Int32)))), (0, .ref (b 0))]) hx hb dX2_likeOnes_57 hl (k := 3) rfl (by first | rfl | decide) (Nat.le_of_ble_eq_true rfl) rfl (fun ls hl => ?_)
  refine lv_goto (tgt := 4) hx hb dX2_likeOnes_60 (by decide) ?_
  refine lv_iload_n hx hb dX2_likeOnes_4 rfl (lv_at hl 0 rfl) ?_
  refine lv_bipush (v := (6 : Int32)) hx hb dX2_likeOnes_5 qb_6 ?_
  refine lv_icmp_ge (tgt := 63) hx hb dX2_likeOnes_7 (by decide) (fun c_x => absurd c_x (by decide)) (fun _ => ?_)
  refine lv_iconst (v := (0 : Int32)) hx hb dX2_likeOnes_10 qi_0 ?_
  refine lv_istore_n (lv' := [(3, .int (0 : Int32)), (2, .int (2 : Int32)), (1, .int ((0 : Int32) + (if ((0 : Int32) ||| (if (fX2_order T (1 : Int32) (0 : Int32)) = 0 then (1 : Int32) else (0 : Int32))) = 0 then (0 : Int32) else (1 : Int32)))), (4, .int (1 : Int32)), (0, .ref (b 0))]) hx hb dX2_likeOnes_11 rfl hl (Nat.le_of_ble_eq_true rfl) rfl (fun ls hl => ?_)
  refine lv_iconst (v := (0 : Int32)) hx hb dX2_likeOnes_12 qi_0 ?_
  refine lv_istore (lv' := [(4, .int (0 : Int32)), (3, .int (0 : Int32)), (2, .int (2 : Int32)), (1, .int ((0 : Int32) + (if ((0 : Int32) ||| (if (fX2_order T (1 : Int32) (0 : Int32)) = 0 then (1 : Int32) else (0 : Int32))) = 0 then (0 : Int32) else (1 : Int32)))), (0, .ref (b 0))]) hx hb dX2_likeOnes_13 hl (Nat.le_of_ble_eq_true rfl) rfl (fun ls hl => ?_)
  refine lv_iload hx hb dX2_likeOnes_15 (lv_at hl 0 rfl) ?_
  refine lv_iload_n hx hb dX2_likeOnes_17 rfl (lv_at hl 2 rfl) ?_
  refine lv_icmp_ge (tgt := 45) hx hb dX2_likeOnes_18 (by decide) (fun c_x => absurd c_x (by decide)) (fun _ => ?_)
  refine lv_iload_n hx hb dX2_likeOnes_21 rfl (lv_at hl 1 rfl) ?_
  refine lv_aload_n hx hb dX2_likeOnes_22 rfl (lv_at hl 4 rfl) ?_
  refine lv_iload_n hx hb dX2_likeOnes_23 rfl (lv_at hl 2 rfl) ?_
  refine lv_iload hx hb dX2_likeOnes_24 (lv_at hl 0 rfl) ?_
  refine rcVi (as := [.int (2 : Int32), .int (0 : Int32)]) (rest := [.int (0 : Int32)]) (cl := RX2) C (c_X2_order l G b T (2 : Int32) (0 : Int32) (vp_in_lit 2) (vp_in_lit 0) hT) F_X2_order rfl bw1561 bw1563 bw48 hE hP (rv4 hE.K hP (q0 := 0) rfl) hl.1 dX2_likeOnes_26 ⟨Nat.le_of_ble_eq_true rfl, Nat.le_of_ble_eq_true rfl⟩ rfl (Nat.le_of_ble_eq_true rfl) ⟨Nat.zero_le _, Nat.zero_le _⟩ ?_
  refine k_dia (b := (fX2_order T (2 : Int32) (0 : Int32)) = 0) (x := (1 : Int32)) (y := (0 : Int32)) (Wg := fun z9 => W _ _ _ _ _ _ _ _ _ _ _ _ _ _ _ (F0 m 37 ls (.int z9 :: _))) ?_ (fun t9 f9 => lv_if_ne (tgt := 36) hx hb dX2_likeOnes_29 (by decide) (fun c_x => lv_iconst (v := (0 : Int32)) hx hb dX2_likeOnes_36 qi_0 (f9 c_x)) (fun c_x => lv_iconst (v := (1 : Int32)) hx hb dX2_likeOnes_32 qi_1 (lv_goto (tgt := 37) hx hb dX2_likeOnes_33 (by decide) (t9 c_x))))
  refine lv_ior hx hb dX2_likeOnes_37 ?_
  refine lv_istore_n (lv' := [(3, .int ((0 : Int32) ||| (if (fX2_order T (2 : Int32) (0 : Int32)) = 0 then (1 : Int32) else (0 : Int32)))), (4, .int (0 : Int32)), (2, .int (2 : Int32)), (1, .int ((0 : Int32) + (if ((0 : Int32) ||| (if (fX2_order T (1 : Int32) (0 : Int32)) = 0 then (1 : Int32) else (0 : Int32))) = 0 then (0 : Int32) else (1 : Int32)))), (0, .ref (b 0))]) hx hb dX2_likeOnes_38 rfl hl (Nat.le_of_ble_eq_true rfl) rfl (fun ls hl => ?_)
  refine lv_iinc (v := (1 : Int32)) (lv' := [(4, .int (1 : Int32)), (3, .int ((0 : Int32) ||| (if (fX2_order T (2 : Int32) (0 : Int32)) = 0 then (1 : Int32) else (0 : Int32)))), (2, .int (2 : Int32)), (1, .int ((0 : Int32) + (if ((0 : Int32) ||| (if (fX2_order T (1 : Int32) (0 : Int32)) = 0 then (1 : Int32) else (0 : Int32))) = 0 then (0 : Int32) else (1 : Int32)))), (0, .ref (b 0))]) hx hb dX2_likeOnes_39 hl (k := 1) rfl (by first | rfl | decide) (Nat.le_of_ble_eq_true rfl) rfl (fun ls hl => ?_)
  refine lv_goto (tgt := 15) hx hb dX2_likeOnes_42 (by decide) ?_
  refine lv_iload hx hb dX2_likeOnes_15 (lv_at hl 0 rfl) ?_
  refine lv_iload_n hx hb dX2_likeOnes_17 rfl (lv_at hl 2 rfl) ?_
  refine lv_icmp_ge (tgt := 45) hx hb dX2_likeOnes_18 (by decide) (fun c_x => absurd c_x (by decide)) (fun _ => ?_)
  refine lv_iload_n hx hb dX2_likeOnes_21 rfl (lv_at hl 1 rfl) ?_
  refine lv_aload_n hx hb dX2_likeOnes_22 rfl (lv_at hl 4 rfl) ?_
  refine lv_iload_n hx hb dX2_likeOnes_23 rfl (lv_at hl 2 rfl) ?_
  refine lv_iload hx hb dX2_likeOnes_24 (lv_at hl 0 rfl) ?_
  refine rcVi (as := [.int (2 : Int32), .int (1 : Int32)]) (rest := [.int ((0 : Int32) ||| (if (fX2_order T (2 : Int32) (0 : Int32)) = 0 then (1 : Int32) else (0 : Int32)))]) (cl := RX2) C (c_X2_order l G b T (2 : Int32) (1 : Int32) (vp_in_lit 2) (vp_in_lit 1) hT) F_X2_order rfl bw1561 bw1563 bw48 hE hP (rv4 hE.K hP (q0 := 0) rfl) hl.1 dX2_likeOnes_26 ⟨Nat.le_of_ble_eq_true rfl, Nat.le_of_ble_eq_true rfl⟩ rfl (Nat.le_of_ble_eq_true rfl) ⟨Nat.zero_le _, Nat.zero_le _⟩ ?_
  refine k_dia (b := (fX2_order T (2 : Int32) (1 : Int32)) = 0) (x := (1 : Int32)) (y := (0 : Int32)) (Wg := fun z9 => W _ _ _ _ _ _ _ _ _ _ _ _ _ _ _ (F0 m 37 ls (.int z9 :: _))) ?_ (fun t9 f9 => lv_if_ne (tgt := 36) hx hb dX2_likeOnes_29 (by decide) (fun c_x => lv_iconst (v := (0 : Int32)) hx hb dX2_likeOnes_36 qi_0 (f9 c_x)) (fun c_x => lv_iconst (v := (1 : Int32)) hx hb dX2_likeOnes_32 qi_1 (lv_goto (tgt := 37) hx hb dX2_likeOnes_33 (by decide) (t9 c_x))))
  refine lv_ior hx hb dX2_likeOnes_37 ?_
  refine lv_istore_n (lv' := [(3, .int (((0 : Int32) ||| (if (fX2_order T (2 : Int32) (0 : Int32)) = 0 then (1 : Int32) else (0 : Int32))) ||| (if (fX2_order T (2 : Int32) (1 : Int32)) = 0 then (1 : Int32) else (0 : Int32)))), (4, .int (1 : Int32)), (2, .int (2 : Int32)), (1, .int ((0 : Int32) + (if ((0 : Int32) ||| (if (fX2_order T (1 : Int32) (0 : Int32)) = 0 then (1 : Int32) else (0 : Int32))) = 0 then (0 : Int32) else (1 : Int32)))), (0, .ref (b 0))]) hx hb dX2_likeOnes_38 rfl hl (Nat.le_of_ble_eq_true rfl) rfl (fun ls hl => ?_)
  refine lv_iinc (v := (2 : Int32)) (lv' := [(4, .int (2 : Int32)), (3, .int (((0 : Int32) ||| (if (fX2_order T (2 : Int32) (0 : Int32)) = 0 then (1 : Int32) else (0 : Int32))) ||| (if (fX2_order T (2 : Int32) (1 : Int32)) = 0 then (1 : Int32) else (0 : Int32)))), (2, .int (2 : Int32)), (1, .int ((0 : Int32) + (if ((0 : Int32) ||| (if (fX2_order T (1 : Int32) (0 : Int32)) = 0 then (1 : Int32) else (0 : Int32))) = 0 then (0 : Int32) else (1 : Int32)))), (0, .ref (b 0))]) hx hb dX2_likeOnes_39 hl (k := 1) rfl (by first | rfl | decide) (Nat.le_of_ble_eq_true rfl) rfl (fun ls hl => ?_)
  refine lv_goto (tgt := 15) hx hb dX2_likeOnes_42 (by decide) ?_
  refine lv_iload hx hb dX2_likeOnes_15 (lv_at hl 0 rfl) ?_
  refine lv_iload_n hx hb dX2_likeOnes_17 rfl (lv_at hl 2 rfl) ?_
  refine lv_icmp_ge (tgt := 45) hx hb dX2_likeOnes_18 (by decide) (fun _ => ?_) (fun c_x => absurd (show (2 : Int32) ≤ (2 : Int32) from by decide) c_x)
  refine lv_iload_n hx hb dX2_likeOnes_45 rfl (lv_at hl 3 rfl) ?_
  refine lv_iload_n hx hb dX2_likeOnes_46 rfl (lv_at hl 1 rfl) ?_
  refine k_dia (b := (((0 : Int32) ||| (if (fX2_order T (2 : Int32) (0 : Int32)) = 0 then (1 : Int32) else (0 : Int32))) ||| (if (fX2_order T (2 : Int32) (1 : Int32)) = 0 then (1 : Int32) else (0 : Int32))) = 0) (x := (0 : Int32)) (y := (1 : Int32)) (Wg := fun z9 => W _ _ _ _ _ _ _ _ _ _ _ _ _ _ _ (F0 m 55 ls (.int z9 :: _))) ?_ (fun t9 f9 => lv_if_eq (tgt := 54) hx hb dX2_likeOnes_47 (by decide) (fun c_x => lv_iconst (v := (0 : Int32)) hx hb dX2_likeOnes_54 qi_0 (t9 c_x)) (fun c_x => lv_iconst (v := (1 : Int32)) hx hb dX2_likeOnes_50 qi_1 (lv_goto (tgt := 55) hx hb dX2_likeOnes_51 (by decide) (f9 c_x))))
  refine lv_iadd hx hb dX2_likeOnes_55 ?_
  refine lv_istore_n (lv' := [(1, .int (((0 : Int32) + (if ((0 : Int32) ||| (if (fX2_order T (1 : Int32) (0 : Int32)) = 0 then (1 : Int32) else (0 : Int32))) = 0 then (0 : Int32) else (1 : Int32))) + (if (((0 : Int32) ||| (if (fX2_order T (2 : Int32) (0 : Int32)) = 0 then (1 : Int32) else (0 : Int32))) ||| (if (fX2_order T (2 : Int32) (1 : Int32)) = 0 then (1 : Int32) else (0 : Int32))) = 0 then (0 : Int32) else (1 : Int32)))), (4, .int (2 : Int32)), (3, .int (((0 : Int32) ||| (if (fX2_order T (2 : Int32) (0 : Int32)) = 0 then (1 : Int32) else (0 : Int32))) ||| (if (fX2_order T (2 : Int32) (1 : Int32)) = 0 then (1 : Int32) else (0 : Int32)))), (2, .int (2 : Int32)), (0, .ref (b 0))]) hx hb dX2_likeOnes_56 rfl hl (Nat.le_of_ble_eq_true rfl) rfl (fun ls hl => ?_)
  refine lv_iinc (v := (3 : Int32)) (lv' := [(2, .int (3 : Int32)), (1, .int (((0 : Int32) + (if ((0 : Int32) ||| (if (fX2_order T (1 : Int32) (0 : Int32)) = 0 then (1 : Int32) else (0 : Int32))) = 0 then (0 : Int32) else (1 : Int32))) + (if (((0 : Int32) ||| (if (fX2_order T (2 : Int32) (0 : Int32)) = 0 then (1 : Int32) else (0 : Int32))) ||| (if (fX2_order T (2 : Int32) (1 : Int32)) = 0 then (1 : Int32) else (0 : Int32))) = 0 then (0 : Int32) else (1 : Int32)))), (4, .int (2 : Int32)), (3, .int (((0 : Int32) ||| (if (fX2_order T (2 : Int32) (0 : Int32)) = 0 then (1 : Int32) else (0 : Int32))) ||| (if (fX2_order T (2 : Int32) (1 : Int32)) = 0 then (1 : Int32) else (0 : Int32)))), (0, .ref (b 0))]) hx hb dX2_likeOnes_57 hl (k := 3) rfl (by first | rfl | decide) (Nat.le_of_ble_eq_true rfl) rfl (fun ls hl => ?_)
  refine lv_goto (tgt := 4) hx hb dX2_likeOnes_60 (by decide) ?_
  refine lv_iload_n hx hb dX2_likeOnes_4 rfl (lv_at hl 0 rfl) ?_
  refine lv_bipush (v := (6 : Int32)) hx hb dX2_likeOnes_5 qb_6 ?_
  refine lv_icmp_ge (tgt := 63) hx hb dX2_likeOnes_7 (by decide) (fun c_x => absurd c_x (by decide)) (fun _ => ?_)
  refine lv_iconst (v := (0 : Int32)) hx hb dX2_likeOnes_10 qi_0 ?_
  refine lv_istore_n (lv' := [(3, .int (0 : Int32)), (2, .int (3 : Int32)), (1, .int (((0 : Int32) + (if ((0 : Int32) ||| (if (fX2_order T (1 : Int32) (0 : Int32)) = 0 then (1 : Int32) else (0 : Int32))) = 0 then (0 : Int32) else (1 : Int32))) + (if (((0 : Int32) ||| (if (fX2_order T (2 : Int32) (0 : Int32)) = 0 then (1 : Int32) else (0 : Int32))) ||| (if (fX2_order T (2 : Int32) (1 : Int32)) = 0 then (1 : Int32) else (0 : Int32))) = 0 then (0 : Int32) else (1 : Int32)))), (4, .int (2 : Int32)), (0, .ref (b 0))]) hx hb dX2_likeOnes_11 rfl hl (Nat.le_of_ble_eq_true rfl) rfl (fun ls hl => ?_)
  refine lv_iconst (v := (0 : Int32)) hx hb dX2_likeOnes_12 qi_0 ?_
  refine lv_istore (lv' := [(4, .int (0 : Int32)), (3, .int (0 : Int32)), (2, .int (3 : Int32)), (1, .int (((0 : Int32) + (if ((0 : Int32) ||| (if (fX2_order T (1 : Int32) (0 : Int32)) = 0 then (1 : Int32) else (0 : Int32))) = 0 then (0 : Int32) else (1 : Int32))) + (if (((0 : Int32) ||| (if (fX2_order T (2 : Int32) (0 : Int32)) = 0 then (1 : Int32) else (0 : Int32))) ||| (if (fX2_order T (2 : Int32) (1 : Int32)) = 0 then (1 : Int32) else (0 : Int32))) = 0 then (0 : Int32) else (1 : Int32)))), (0, .ref (b 0))]) hx hb dX2_likeOnes_13 hl (Nat.le_of_ble_eq_true rfl) rfl (fun ls hl => ?_)
  refine lv_iload hx hb dX2_likeOnes_15 (lv_at hl 0 rfl) ?_
  refine lv_iload_n hx hb dX2_likeOnes_17 rfl (lv_at hl 2 rfl) ?_
  refine lv_icmp_ge (tgt := 45) hx hb dX2_likeOnes_18 (by decide) (fun c_x => absurd c_x (by decide)) (fun _ => ?_)
  refine lv_iload_n hx hb dX2_likeOnes_21 rfl (lv_at hl 1 rfl) ?_
  refine lv_aload_n hx hb dX2_likeOnes_22 rfl (lv_at hl 4 rfl) ?_
  refine lv_iload_n hx hb dX2_likeOnes_23 rfl (lv_at hl 2 rfl) ?_
  refine lv_iload hx hb dX2_likeOnes_24 (lv_at hl 0 rfl) ?_
  refine rcVi (as := [.int (3 : Int32), .int (0 : Int32)]) (rest := [.int (0 : Int32)]) (cl := RX2) C (c_X2_order l G b T (3 : Int32) (0 : Int32) (vp_in_lit 3) (vp_in_lit 0) hT) F_X2_order rfl bw1561 bw1563 bw48 hE hP (rv4 hE.K hP (q0 := 0) rfl) hl.1 dX2_likeOnes_26 ⟨Nat.le_of_ble_eq_true rfl, Nat.le_of_ble_eq_true rfl⟩ rfl (Nat.le_of_ble_eq_true rfl) ⟨Nat.zero_le _, Nat.zero_le _⟩ ?_
  refine k_dia (b := (fX2_order T (3 : Int32) (0 : Int32)) = 0) (x := (1 : Int32)) (y := (0 : Int32)) (Wg := fun z9 => W _ _ _ _ _ _ _ _ _ _ _ _ _ _ _ (F0 m 37 ls (.int z9 :: _))) ?_ (fun t9 f9 => lv_if_ne (tgt := 36) hx hb dX2_likeOnes_29 (by decide) (fun c_x => lv_iconst (v := (0 : Int32)) hx hb dX2_likeOnes_36 qi_0 (f9 c_x)) (fun c_x => lv_iconst (v := (1 : Int32)) hx hb dX2_likeOnes_32 qi_1 (lv_goto (tgt := 37) hx hb dX2_likeOnes_33 (by decide) (t9 c_x))))
  refine lv_ior hx hb dX2_likeOnes_37 ?_
  refine lv_istore_n (lv' := [(3, .int ((0 : Int32) ||| (if (fX2_order T (3 : Int32) (0 : Int32)) = 0 then (1 : Int32) else (0 : Int32)))), (4, .int (0 : Int32)), (2, .int (3 : Int32)), (1, .int (((0 : Int32) + (if ((0 : Int32) ||| (if (fX2_order T (1 : Int32) (0 : Int32)) = 0 then (1 : Int32) else (0 : Int32))) = 0 then (0 : Int32) else (1 : Int32))) + (if (((0 : Int32) ||| (if (fX2_order T (2 : Int32) (0 : Int32)) = 0 then (1 : Int32) else (0 : Int32))) ||| (if (fX2_order T (2 : Int32) (1 : Int32)) = 0 then (1 : Int32) else (0 : Int32))) = 0 then (0 : Int32) else (1 : Int32)))), (0, .ref (b 0))]) hx hb dX2_likeOnes_38 rfl hl (Nat.le_of_ble_eq_true rfl) rfl (fun ls hl => ?_)
  refine lv_iinc (v := (1 : Int32)) (lv' := [(4, .int (1 : Int32)), (3, .int ((0 : Int32) ||| (if (fX2_order T (3 : Int32) (0 : Int32)) = 0 then (1 : Int32) else (0 : Int32)))), (2, .int (3 : Int32)), (1, .int (((0 : Int32) + (if ((0 : Int32) ||| (if (fX2_order T (1 : Int32) (0 : Int32)) = 0 then (1 : Int32) else (0 : Int32))) = 0 then (0 : Int32) else (1 : Int32))) + (if (((0 : Int32) ||| (if (fX2_order T (2 : Int32) (0 : Int32)) = 0 then (1 : Int32) else (0 : Int32))) ||| (if (fX2_order T (2 : Int32) (1 : Int32)) = 0 then (1 : Int32) else (0 : Int32))) = 0 then (0 : Int32) else (1 : Int32)))), (0, .ref (b 0))]) hx hb dX2_likeOnes_39 hl (k := 1) rfl (by first | rfl | decide) (Nat.le_of_ble_eq_true rfl) rfl (fun ls hl => ?_)
  refine lv_goto (tgt := 15) hx hb dX2_likeOnes_42 (by decide) ?_
  refine lv_iload hx hb dX2_likeOnes_15 (lv_at hl 0 rfl) ?_
  refine lv_iload_n hx hb dX2_likeOnes_17 rfl (lv_at hl 2 rfl) ?_
  refine lv_icmp_ge (tgt := 45) hx hb dX2_likeOnes_18 (by decide) (fun c_x => absurd c_x (by decide)) (fun _ => ?_)
  refine lv_iload_n hx hb dX2_likeOnes_21 rfl (lv_at hl 1 rfl) ?_
  refine lv_aload_n hx hb dX2_likeOnes_22 rfl (lv_at hl 4 rfl) ?_
  refine lv_iload_n hx hb dX2_likeOnes_23 rfl (lv_at hl 2 rfl) ?_
  refine lv_iload hx hb dX2_likeOnes_24 (lv_at hl 0 rfl) ?_
  refine rcVi (as := [.int (3 : Int32), .int (1 : Int32)]) (rest := [.int ((0 : Int32) ||| (if (fX2_order T (3 : Int32) (0 : Int32)) = 0 then (1 : Int32) else (0 : Int32)))]) (cl := RX2) C (c_X2_order l G b T (3 : Int32) (1 : Int32) (vp_in_lit 3) (vp_in_lit 1) hT) F_X2_order rfl bw1561 bw1563 bw48 hE hP (rv4 hE.K hP (q0 := 0) rfl) hl.1 dX2_likeOnes_26 ⟨Nat.le_of_ble_eq_true rfl, Nat.le_of_ble_eq_true rfl⟩ rfl (Nat.le_of_ble_eq_true rfl) ⟨Nat.zero_le _, Nat.zero_le _⟩ ?_
  refine k_dia (b := (fX2_order T (3 : Int32) (1 : Int32)) = 0) (x := (1 : Int32)) (y := (0 : Int32)) (Wg := fun z9 => W _ _ _ _ _ _ _ _ _ _ _ _ _ _ _ (F0 m 37 ls (.int z9 :: _))) ?_ (fun t9 f9 => lv_if_ne (tgt := 36) hx hb dX2_likeOnes_29 (by decide) (fun c_x => lv_iconst (v := (0 : Int32)) hx hb dX2_likeOnes_36 qi_0 (f9 c_x)) (fun c_x => lv_iconst (v := (1 : Int32)) hx hb dX2_likeOnes_32 qi_1 (lv_goto (tgt := 37) hx hb dX2_likeOnes_33 (by decide) (t9 c_x))))
  refine lv_ior hx hb dX2_likeOnes_37 ?_
  refine lv_istore_n (lv' := [(3, .int (((0 : Int32) ||| (if (fX2_order T (3 : Int32) (0 : Int32)) = 0 then (1 : Int32) else (0 : Int32))) ||| (if (fX2_order T (3 : Int32) (1 : Int32)) = 0 then (1 : Int32) else (0 : Int32)))), (4, .int (1 : Int32)), (2, .int (3 : Int32)), (1, .int (((0 : Int32) + (if ((0 : Int32) ||| (if (fX2_order T (1 : Int32) (0 : Int32)) = 0 then (1 : Int32) else (0 : Int32))) = 0 then (0 : Int32) else (1 : Int32))) + (if (((0 : Int32) ||| (if (fX2_order T (2 : Int32) (0 : Int32)) = 0 then (1 : Int32) else (0 : Int32))) ||| (if (fX2_order T (2 : Int32) (1 : Int32)) = 0 then (1 : Int32) else (0 : Int32))) = 0 then (0 : Int32) else (1 : Int32)))), (0, .ref (b 0))]) hx hb dX2_likeOnes_38 rfl hl (Nat.le_of_ble_eq_true rfl) rfl (fun ls hl => ?_)
  refine lv_iinc (v := (2 : Int32)) (lv' := [(4, .int (2 : Int32)), (3, .int (((0 : Int32) ||| (if (fX2_order T (3 : Int32) (0 : Int32)) = 0 then (1 : Int32) else (0 : Int32))) ||| (if (fX2_order T (3 : Int32) (1 : Int32)) = 0 then (1 : Int32) else (0 : Int32)))), (2, .int (3 : Int32)), (1, .int (((0 : Int32) + (if ((0 : Int32) ||| (if (fX2_order T (1 : Int32) (0 : Int32)) = 0 then (1 : Int32) else (0 : Int32))) = 0 then (0 : Int32) else (1 : Int32))) + (if (((0 : Int32) ||| (if (fX2_order T (2 : Int32) (0 : Int32)) = 0 then (1 : Int32) else (0 : Int32))) ||| (if (fX2_order T (2 : Int32) (1 : Int32)) = 0 then (1 : Int32) else (0 : Int32))) = 0 then (0 : Int32) else (1 : Int32)))), (0, .ref (b 0))]) hx hb dX2_likeOnes_39 hl (k := 1) rfl (by first | rfl | decide) (Nat.le_of_ble_eq_true rfl) rfl (fun ls hl => ?_)
  refine lv_goto (tgt := 15) hx hb dX2_likeOnes_42 (by decide) ?_
  refine lv_iload hx hb dX2_likeOnes_15 (lv_at hl 0 rfl) ?_
  refine lv_iload_n hx hb dX2_likeOnes_17 rfl (lv_at hl 2 rfl) ?_
  refine lv_icmp_ge (tgt := 45) hx hb dX2_likeOnes_18 (by decide) (fun c_x => absurd c_x (by decide)) (fun _ => ?_)
  refine lv_iload_n hx hb dX2_likeOnes_21 rfl (lv_at hl 1 rfl) ?_
  refine lv_aload_n hx hb dX2_likeOnes_22 rfl (lv_at hl 4 rfl) ?_
  refine lv_iload_n hx hb dX2_likeOnes_23 rfl (lv_at hl 2 rfl) ?_
  refine lv_iload hx hb dX2_likeOnes_24 (lv_at hl 0 rfl) ?_
  refine rcVi (as := [.int (3 : Int32), .int (2 : Int32)]) (rest := [.int (((0 : Int32) ||| (if (fX2_order T (3 : Int32) (0 : Int32)) = 0 then (1 : Int32) else (0 : Int32))) ||| (if (fX2_order T (3 : Int32) (1 : Int32)) = 0 then (1 : Int32) else (0 : Int32)))]) (cl := RX2) C (c_X2_order l G b T (3 : Int32) (2 : Int32) (vp_in_lit 3) (vp_in_lit 2) hT) F_X2_order rfl bw1561 bw1563 bw48 hE hP (rv4 hE.K hP (q0 := 0) rfl) hl.1 dX2_likeOnes_26 ⟨Nat.le_of_ble_eq_true rfl, Nat.le_of_ble_eq_true rfl⟩ rfl (Nat.le_of_ble_eq_true rfl) ⟨Nat.zero_le _, Nat.zero_le _⟩ ?_
  refine k_dia (b := (fX2_order T (3 : Int32) (2 : Int32)) = 0) (x := (1 : Int32)) (y := (0 : Int32)) (Wg := fun z9 => W _ _ _ _ _ _ _ _ _ _ _ _ _ _ _ (F0 m 37 ls (.int z9 :: _))) ?_ (fun t9 f9 => lv_if_ne (tgt := 36) hx hb dX2_likeOnes_29 (by decide) (fun c_x => lv_iconst (v := (0 : Int32)) hx hb dX2_likeOnes_36 qi_0 (f9 c_x)) (fun c_x => lv_iconst (v := (1 : Int32)) hx hb dX2_likeOnes_32 qi_1 (lv_goto (tgt := 37) hx hb dX2_likeOnes_33 (by decide) (t9 c_x))))
  refine lv_ior hx hb dX2_likeOnes_37 ?_
  refine lv_istore_n (lv' := [(3, .int ((((0 : Int32) ||| (if (fX2_order T (3 : Int32) (0 : Int32)) = 0 then (1 : Int32) else (0 : Int32))) ||| (if (fX2_order T (3 : Int32) (1 : Int32)) = 0 then (1 : Int32) else (0 : Int32))) ||| (if (fX2_order T (3 : Int32) (2 : Int32)) = 0 then (1 : Int32) else (0 : Int32)))), (4, .int (2 : Int32)), (2, .int (3 : Int32)), (1, .int (((0 : Int32) + (if ((0 : Int32) ||| (if (fX2_order T (1 : Int32) (0 : Int32)) = 0 then (1 : Int32) else (0 : Int32))) = 0 then (0 : Int32) else (1 : Int32))) + (if (((0 : Int32) ||| (if (fX2_order T (2 : Int32) (0 : Int32)) = 0 then (1 : Int32) else (0 : Int32))) ||| (if (fX2_order T (2 : Int32) (1 : Int32)) = 0 then (1 : Int32) else (0 : Int32))) = 0 then (0 : Int32) else (1 : Int32)))), (0, .ref (b 0))]) hx hb dX2_likeOnes_38 rfl hl (Nat.le_of_ble_eq_true rfl) rfl (fun ls hl => ?_)
  refine lv_iinc (v := (3 : Int32)) (lv' := [(4, .int (3 : Int32)), (3, .int ((((0 : Int32) ||| (if (fX2_order T (3 : Int32) (0 : Int32)) = 0 then (1 : Int32) else (0 : Int32))) ||| (if (fX2_order T (3 : Int32) (1 : Int32)) = 0 then (1 : Int32) else (0 : Int32))) ||| (if (fX2_order T (3 : Int32) (2 : Int32)) = 0 then (1 : Int32) else (0 : Int32)))), (2, .int (3 : Int32)), (1, .int (((0 : Int32) + (if ((0 : Int32) ||| (if (fX2_order T (1 : Int32) (0 : Int32)) = 0 then (1 : Int32) else (0 : Int32))) = 0 then (0 : Int32) else (1 : Int32))) + (if (((0 : Int32) ||| (if (fX2_order T (2 : Int32) (0 : Int32)) = 0 then (1 : Int32) else (0 : Int32))) ||| (if (fX2_order T (2 : Int32) (1 : Int32)) = 0 then (1 : Int32) else (0 : Int32))) = 0 then (0 : Int32) else (1 : Int32)))), (0, .ref (b 0))]) hx hb dX2_likeOnes_39 hl (k := 1) rfl (by first | rfl | decide) (Nat.le_of_ble_eq_true rfl) rfl (fun ls hl => ?_)
  refine lv_goto (tgt := 15) hx hb dX2_likeOnes_42 (by decide) ?_
  refine lv_iload hx hb dX2_likeOnes_15 (lv_at hl 0 rfl) ?_
  refine lv_iload_n hx hb dX2_likeOnes_17 rfl (lv_at hl 2 rfl) ?_
  refine lv_icmp_ge (tgt := 45) hx hb dX2_likeOnes_18 (by decide) (fun _ => ?_) (fun c_x => absurd (show (3 : Int32) ≤ (3 : Int32) from by decide) c_x)
  refine lv_iload_n hx hb dX2_likeOnes_45 rfl (lv_at hl 3 rfl) ?_
  refine lv_iload_n hx hb dX2_likeOnes_46 rfl (lv_at hl 1 rfl) ?_
  refine k_dia (b := ((((0 : Int32) ||| (if (fX2_order T (3 : Int32) (0 : Int32)) = 0 then (1 : Int32) else (0 : Int32))) ||| (if (fX2_order T (3 : Int32) (1 : Int32)) = 0 then (1 : Int32) else (0 : Int32))) ||| (if (fX2_order T (3 : Int32) (2 : Int32)) = 0 then (1 : Int32) else (0 : Int32))) = 0) (x := (0 : Int32)) (y := (1 : Int32)) (Wg := fun z9 => W _ _ _ _ _ _ _ _ _ _ _ _ _ _ _ (F0 m 55 ls (.int z9 :: _))) ?_ (fun t9 f9 => lv_if_eq (tgt := 54) hx hb dX2_likeOnes_47 (by decide) (fun c_x => lv_iconst (v := (0 : Int32)) hx hb dX2_likeOnes_54 qi_0 (t9 c_x)) (fun c_x => lv_iconst (v := (1 : Int32)) hx hb dX2_likeOnes_50 qi_1 (lv_goto (tgt := 55) hx hb dX2_likeOnes_51 (by decide) (f9 c_x))))
  refine lv_iadd hx hb dX2_likeOnes_55 ?_
  refine lv_istore_n (lv' := [(1, .int ((((0 : Int32) + (if ((0 : Int32) ||| (if (fX2_order T (1 : Int32) (0 : Int32)) = 0 then (1 : Int32) else (0 : Int32))) = 0 then (0 : Int32) else (1 : Int32))) + (if (((0 : Int32) ||| (if (fX2_order T (2 : Int32) (0 : Int32)) = 0 then (1 : Int32) else (0 : Int32))) ||| (if (fX2_order T (2 : Int32) (1 : Int32)) = 0 then (1 : Int32) else (0 : Int32))) = 0 then (0 : Int32) else (1 : Int32))) + (if ((((0 : Int32) ||| (if (fX2_order T (3 : Int32) (0 : Int32)) = 0 then (1 : Int32) else (0 : Int32))) ||| (if (fX2_order T (3 : Int32) (1 : Int32)) = 0 then (1 : Int32) else (0 : Int32))) ||| (if (fX2_order T (3 : Int32) (2 : Int32)) = 0 then (1 : Int32) else (0 : Int32))) = 0 then (0 : Int32) else (1 : Int32)))), (4, .int (3 : Int32)), (3, .int ((((0 : Int32) ||| (if (fX2_order T (3 : Int32) (0 : Int32)) = 0 then (1 : Int32) else (0 : Int32))) ||| (if (fX2_order T (3 : Int32) (1 : Int32)) = 0 then (1 : Int32) else (0 : Int32))) ||| (if (fX2_order T (3 : Int32) (2 : Int32)) = 0 then (1 : Int32) else (0 : Int32)))), (2, .int (3 : Int32)), (0, .ref (b 0))]) hx hb dX2_likeOnes_56 rfl hl (Nat.le_of_ble_eq_true rfl) rfl (fun ls hl => ?_)
  refine lv_iinc (v := (4 : Int32)) (lv' := [(2, .int (4 : Int32)), (1, .int ((((0 : Int32) + (if ((0 : Int32) ||| (if (fX2_order T (1 : Int32) (0 : Int32)) = 0 then (1 : Int32) else (0 : Int32))) = 0 then (0 : Int32) else (1 : Int32))) + (if (((0 : Int32) ||| (if (fX2_order T (2 : Int32) (0 : Int32)) = 0 then (1 : Int32) else (0 : Int32))) ||| (if (fX2_order T (2 : Int32) (1 : Int32)) = 0 then (1 : Int32) else (0 : Int32))) = 0 then (0 : Int32) else (1 : Int32))) + (if ((((0 : Int32) ||| (if (fX2_order T (3 : Int32) (0 : Int32)) = 0 then (1 : Int32) else (0 : Int32))) ||| (if (fX2_order T (3 : Int32) (1 : Int32)) = 0 then (1 : Int32) else (0 : Int32))) ||| (if (fX2_order T (3 : Int32) (2 : Int32)) = 0 then (1 : Int32) else (0 : Int32))) = 0 then (0 : Int32) else (1 : Int32)))), (4, .int (3 : Int32)), (3, .int ((((0 : Int32) ||| (if (fX2_order T (3 : Int32) (0 : Int32)) = 0 then (1 : Int32) else (0 : Int32))) ||| (if (fX2_order T (3 : Int32) (1 : Int32)) = 0 then (1 : Int32) else (0 : Int32))) ||| (if (fX2_order T (3 : Int32) (2 : Int32)) = 0 then (1 : Int32) else (0 : Int32)))), (0, .ref (b 0))]) hx hb dX2_likeOnes_57 hl (k := 3) rfl (by first | rfl | decide) (Nat.le_of_ble_eq_true rfl) rfl (fun ls hl => ?_)
  refine lv_goto (tgt := 4) hx hb dX2_likeOnes_60 (by decide) ?_
  refine lv_iload_n hx hb dX2_likeOnes_4 rfl (lv_at hl 0 rfl) ?_
  refine lv_bipush (v := (6 : Int32)) hx hb dX2_likeOnes_5 qb_6 ?_
  refine lv_icmp_ge (tgt := 63) hx hb dX2_likeOnes_7 (by decide) (fun c_x => absurd c_x (by decide)) (fun _ => ?_)
  refine lv_iconst (v := (0 : Int32)) hx hb dX2_likeOnes_10 qi_0 ?_
  refine lv_istore_n (lv' := [(3, .int (0 : Int32)), (2, .int (4 : Int32)), (1, .int ((((0 : Int32) + (if ((0 : Int32) ||| (if (fX2_order T (1 : Int32) (0 : Int32)) = 0 then (1 : Int32) else (0 : Int32))) = 0 then (0 : Int32) else (1 : Int32))) + (if (((0 : Int32) ||| (if (fX2_order T (2 : Int32) (0 : Int32)) = 0 then (1 : Int32) else (0 : Int32))) ||| (if (fX2_order T (2 : Int32) (1 : Int32)) = 0 then (1 : Int32) else (0 : Int32))) = 0 then (0 : Int32) else (1 : Int32))) + (if ((((0 : Int32) ||| (if (fX2_order T (3 : Int32) (0 : Int32)) = 0 then (1 : Int32) else (0 : Int32))) ||| (if (fX2_order T (3 : Int32) (1 : Int32)) = 0 then (1 : Int32) else (0 : Int32))) ||| (if (fX2_order T (3 : Int32) (2 : Int32)) = 0 then (1 : Int32) else (0 : Int32))) = 0 then (0 : Int32) else (1 : Int32)))), (4, .int (3 : Int32)), (0, .ref (b 0))]) hx hb dX2_likeOnes_11 rfl hl (Nat.le_of_ble_eq_true rfl) rfl (fun ls hl => ?_)
  refine lv_iconst (v := (0 : Int32)) hx hb dX2_likeOnes_12 qi_0 ?_
  refine lv_istore (lv' := [(4, .int (0 : Int32)), (3, .int (0 : Int32)), (2, .int (4 : Int32)), (1, .int ((((0 : Int32) + (if ((0 : Int32) ||| (if (fX2_order T (1 : Int32) (0 : Int32)) = 0 then (1 : Int32) else (0 : Int32))) = 0 then (0 : Int32) else (1 : Int32))) + (if (((0 : Int32) ||| (if (fX2_order T (2 : Int32) (0 : Int32)) = 0 then (1 : Int32) else (0 : Int32))) ||| (if (fX2_order T (2 : Int32) (1 : Int32)) = 0 then (1 : Int32) else (0 : Int32))) = 0 then (0 : Int32) else (1 : Int32))) + (if ((((0 : Int32) ||| (if (fX2_order T (3 : Int32) (0 : Int32)) = 0 then (1 : Int32) else (0 : Int32))) ||| (if (fX2_order T (3 : Int32) (1 : Int32)) = 0 then (1 : Int32) else (0 : Int32))) ||| (if (fX2_order T (3 : Int32) (2 : Int32)) = 0 then (1 : Int32) else (0 : Int32))) = 0 then (0 : Int32) else (1 : Int32)))), (0, .ref (b 0))]) hx hb dX2_likeOnes_13 hl (Nat.le_of_ble_eq_true rfl) rfl (fun ls hl => ?_)
  refine lv_iload hx hb dX2_likeOnes_15 (lv_at hl 0 rfl) ?_
  refine lv_iload_n hx hb dX2_likeOnes_17 rfl (lv_at hl 2 rfl) ?_
  refine lv_icmp_ge (tgt := 45) hx hb dX2_likeOnes_18 (by decide) (fun c_x => absurd c_x (by decide)) (fun _ => ?_)
  refine lv_iload_n hx hb dX2_likeOnes_21 rfl (lv_at hl 1 rfl) ?_
  refine lv_aload_n hx hb dX2_likeOnes_22 rfl (lv_at hl 4 rfl) ?_
  refine lv_iload_n hx hb dX2_likeOnes_23 rfl (lv_at hl 2 rfl) ?_
  refine lv_iload hx hb dX2_likeOnes_24 (lv_at hl 0 rfl) ?_
  refine rcVi (as := [.int (4 : Int32), .int (0 : Int32)]) (rest := [.int (0 : Int32)]) (cl := RX2) C (c_X2_order l G b T (4 : Int32) (0 : Int32) (vp_in_lit 4) (vp_in_lit 0) hT) F_X2_order rfl bw1561 bw1563 bw48 hE hP (rv4 hE.K hP (q0 := 0) rfl) hl.1 dX2_likeOnes_26 ⟨Nat.le_of_ble_eq_true rfl, Nat.le_of_ble_eq_true rfl⟩ rfl (Nat.le_of_ble_eq_true rfl) ⟨Nat.zero_le _, Nat.zero_le _⟩ ?_
  refine k_dia (b := (fX2_order T (4 : Int32) (0 : Int32)) = 0) (x := (1 : Int32)) (y := (0 : Int32)) (Wg := fun z9 => W _ _ _ _ _ _ _ _ _ _ _ _ _ _ _ (F0 m 37 ls (.int z9 :: _))) ?_ (fun t9 f9 => lv_if_ne (tgt := 36) hx hb dX2_likeOnes_29 (by decide) (fun c_x => lv_iconst (v := (0 : Int32)) hx hb dX2_likeOnes_36 qi_0 (f9 c_x)) (fun c_x => lv_iconst (v := (1 : Int32)) hx hb dX2_likeOnes_32 qi_1 (lv_goto (tgt := 37) hx hb dX2_likeOnes_33 (by decide) (t9 c_x))))
  refine lv_ior hx hb dX2_likeOnes_37 ?_
  refine lv_istore_n (lv' := [(3, .int ((0 : Int32) ||| (if (fX2_order T (4 : Int32) (0 : Int32)) = 0 then (1 : Int32) else (0 : Int32)))), (4, .int (0 : Int32)), (2, .int (4 : Int32)), (1, .int ((((0 : Int32) + (if ((0 : Int32) ||| (if (fX2_order T (1 : Int32) (0 : Int32)) = 0 then (1 : Int32) else (0 : Int32))) = 0 then (0 : Int32) else (1 : Int32))) + (if (((0 : Int32) ||| (if (fX2_order T (2 : Int32) (0 : Int32)) = 0 then (1 : Int32) else (0 : Int32))) ||| (if (fX2_order T (2 : Int32) (1 : Int32)) = 0 then (1 : Int32) else (0 : Int32))) = 0 then (0 : Int32) else (1 : Int32))) + (if ((((0 : Int32) ||| (if (fX2_order T (3 : Int32) (0 : Int32)) = 0 then (1 : Int32) else (0 : Int32))) ||| (if (fX2_order T (3 : Int32) (1 : Int32)) = 0 then (1 : Int32) else (0 : Int32))) ||| (if (fX2_order T (3 : Int32) (2 : Int32)) = 0 then (1 : Int32) else (0 : Int32))) = 0 then (0 : Int32) else (1 : Int32)))), (0, .ref (b 0))]) hx hb dX2_likeOnes_38 rfl hl (Nat.le_of_ble_eq_true rfl) rfl (fun ls hl => ?_)
  refine lv_iinc (v := (1 : Int32)) (lv' := [(4, .int (1 : Int32)), (3, .int ((0 : Int32) ||| (if (fX2_order T (4 : Int32) (0 : Int32)) = 0 then (1 : Int32) else (0 : Int32)))), (2, .int (4 : Int32)), (1, .int ((((0 : Int32) + (if ((0 : Int32) ||| (if (fX2_order T (1 : Int32) (0 : Int32)) = 0 then (1 : Int32) else (0 : Int32))) = 0 then (0 : Int32) else (1 : Int32))) + (if (((0 : Int32) ||| (if (fX2_order T (2 : Int32) (0 : Int32)) = 0 then (1 : Int32) else (0 : Int32))) ||| (if (fX2_order T (2 : Int32) (1 : Int32)) = 0 then (1 : Int32) else (0 : Int32))) = 0 then (0 : Int32) else (1 : Int32))) + (if ((((0 : Int32) ||| (if (fX2_order T (3 : Int32) (0 : Int32)) = 0 then (1 : Int32) else (0 : Int32))) ||| (if (fX2_order T (3 : Int32) (1 : Int32)) = 0 then (1 : Int32) else (0 : Int32))) ||| (if (fX2_order T (3 : Int32) (2 : Int32)) = 0 then (1 : Int32) else (0 : Int32))) = 0 then (0 : Int32) else (1 : Int32)))), (0, .ref (b 0))]) hx hb dX2_likeOnes_39 hl (k := 1) rfl (by first | rfl | decide) (Nat.le_of_ble_eq_true rfl) rfl (fun ls hl => ?_)
  refine lv_goto (tgt := 15) hx hb dX2_likeOnes_42 (by decide) ?_
  refine lv_iload hx hb dX2_likeOnes_15 (lv_at hl 0 rfl) ?_
  refine lv_iload_n hx hb dX2_likeOnes_17 rfl (lv_at hl 2 rfl) ?_
  refine lv_icmp_ge (tgt := 45) hx hb dX2_likeOnes_18 (by decide) (fun c_x => absurd c_x (by decide)) (fun _ => ?_)
  refine lv_iload_n hx hb dX2_likeOnes_21 rfl (lv_at hl 1 rfl) ?_
  refine lv_aload_n hx hb dX2_likeOnes_22 rfl (lv_at hl 4 rfl) ?_
  refine lv_iload_n hx hb dX2_likeOnes_23 rfl (lv_at hl 2 rfl) ?_
  refine lv_iload hx hb dX2_likeOnes_24 (lv_at hl 0 rfl) ?_
  refine rcVi (as := [.int (4 : Int32), .int (1 : Int32)]) (rest := [.int ((0 : Int32) ||| (if (fX2_order T (4 : Int32) (0 : Int32)) = 0 then (1 : Int32) else (0 : Int32)))]) (cl := RX2) C (c_X2_order l G b T (4 : Int32) (1 : Int32) (vp_in_lit 4) (vp_in_lit 1) hT) F_X2_order rfl bw1561 bw1563 bw48 hE hP (rv4 hE.K hP (q0 := 0) rfl) hl.1 dX2_likeOnes_26 ⟨Nat.le_of_ble_eq_true rfl, Nat.le_of_ble_eq_true rfl⟩ rfl (Nat.le_of_ble_eq_true rfl) ⟨Nat.zero_le _, Nat.zero_le _⟩ ?_
  refine k_dia (b := (fX2_order T (4 : Int32) (1 : Int32)) = 0) (x := (1 : Int32)) (y := (0 : Int32)) (Wg := fun z9 => W _ _ _ _ _ _ _ _ _ _ _ _ _ _ _ (F0 m 37 ls (.int z9 :: _))) ?_ (fun t9 f9 => lv_if_ne (tgt := 36) hx hb dX2_likeOnes_29 (by decide) (fun c_x => lv_iconst (v := (0 : Int32)) hx hb dX2_likeOnes_36 qi_0 (f9 c_x)) (fun c_x => lv_iconst (v := (1 : Int32)) hx hb dX2_likeOnes_32 qi_1 (lv_goto (tgt := 37) hx hb dX2_likeOnes_33 (by decide) (t9 c_x))))
  refine lv_ior hx hb dX2_likeOnes_37 ?_
  refine lv_istore_n (lv' := [(3, .int (((0 : Int32) ||| (if (fX2_order T (4 : Int32) (0 : Int32)) = 0 then (1 : Int32) else (0 : Int32))) ||| (if (fX2_order T (4 : Int32) (1 : Int32)) = 0 then (1 : Int32) else (0 : Int32)))), (4, .int (1 : Int32)), (2, .int (4 : Int32)), (1, .int ((((0 : Int32) + (if ((0 : Int32) ||| (if (fX2_order T (1 : Int32) (0 : Int32)) = 0 then (1 : Int32) else (0 : Int32))) = 0 then (0 : Int32) else (1 : Int32))) + (if (((0 : Int32) ||| (if (fX2_order T (2 : Int32) (0 : Int32)) = 0 then (1 : Int32) else (0 : Int32))) ||| (if (fX2_order T (2 : Int32) (1 : Int32)) = 0 then (1 : Int32) else (0 : Int32))) = 0 then (0 : Int32) else (1 : Int32))) + (if ((((0 : Int32) ||| (if (fX2_order T (3 : Int32) (0 : Int32)) = 0 then (1 : Int32) else (0 : Int32))) ||| (if (fX2_order T (3 : Int32) (1 : Int32)) = 0 then (1 : Int32) else (0 : Int32))) ||| (if (fX2_order T (3 : Int32) (2 : Int32)) = 0 then (1 : Int32) else (0 : Int32))) = 0 then (0 : Int32) else (1 : Int32)))), (0, .ref (b 0))]) hx hb dX2_likeOnes_38 rfl hl (Nat.le_of_ble_eq_true rfl) rfl (fun ls hl => ?_)
  refine lv_iinc (v := (2 : Int32)) (lv' := [(4, .int (2 : Int32)), (3, .int (((0 : Int32) ||| (if (fX2_order T (4 : Int32) (0 : Int32)) = 0 then (1 : Int32) else (0 : Int32))) ||| (if (fX2_order T (4 : Int32) (1 : Int32)) = 0 then (1 : Int32) else (0 : Int32)))), (2, .int (4 : Int32)), (1, .int ((((0 : Int32) + (if ((0 : Int32) ||| (if (fX2_order T (1 : Int32) (0 : Int32)) = 0 then (1 : Int32) else (0 : Int32))) = 0 then (0 : Int32) else (1 : Int32))) + (if (((0 : Int32) ||| (if (fX2_order T (2 : Int32) (0 : Int32)) = 0 then (1 : Int32) else (0 : Int32))) ||| (if (fX2_order T (2 : Int32) (1 : Int32)) = 0 then (1 : Int32) else (0 : Int32))) = 0 then (0 : Int32) else (1 : Int32))) + (if ((((0 : Int32) ||| (if (fX2_order T (3 : Int32) (0 : Int32)) = 0 then (1 : Int32) else (0 : Int32))) ||| (if (fX2_order T (3 : Int32) (1 : Int32)) = 0 then (1 : Int32) else (0 : Int32))) ||| (if (fX2_order T (3 : Int32) (2 : Int32)) = 0 then (1 : Int32) else (0 : Int32))) = 0 then (0 : Int32) else (1 : Int32)))), (0, .ref (b 0))]) hx hb dX2_likeOnes_39 hl (k := 1) rfl (by first | rfl | decide) (Nat.le_of_ble_eq_true rfl) rfl (fun ls hl => ?_)
  refine lv_goto (tgt := 15) hx hb dX2_likeOnes_42 (by decide) ?_
  refine lv_iload hx hb dX2_likeOnes_15 (lv_at hl 0 rfl) ?_
  refine lv_iload_n hx hb dX2_likeOnes_17 rfl (lv_at hl 2 rfl) ?_
  refine lv_icmp_ge (tgt := 45) hx hb dX2_likeOnes_18 (by decide) (fun c_x => absurd c_x (by decide)) (fun _ => ?_)
  refine lv_iload_n hx hb dX2_likeOnes_21 rfl (lv_at hl 1 rfl) ?_
  refine lv_aload_n hx hb dX2_likeOnes_22 rfl (lv_at hl 4 rfl) ?_
  refine lv_iload_n hx hb dX2_likeOnes_23 rfl (lv_at hl 2 rfl) ?_
  refine lv_iload hx hb dX2_likeOnes_24 (lv_at hl 0 rfl) ?_
  refine rcVi (as := [.int (4 : Int32), .int (2 : Int32)]) (rest := [.int (((0 : Int32) ||| (if (fX2_order T (4 : Int32) (0 : Int32)) = 0 then (1 : Int32) else (0 : Int32))) ||| (if (fX2_order T (4 : Int32) (1 : Int32)) = 0 then (1 : Int32) else (0 : Int32)))]) (cl := RX2) C (c_X2_order l G b T (4 : Int32) (2 : Int32) (vp_in_lit 4) (vp_in_lit 2) hT) F_X2_order rfl bw1561 bw1563 bw48 hE hP (rv4 hE.K hP (q0 := 0) rfl) hl.1 dX2_likeOnes_26 ⟨Nat.le_of_ble_eq_true rfl, Nat.le_of_ble_eq_true rfl⟩ rfl (Nat.le_of_ble_eq_true rfl) ⟨Nat.zero_le _, Nat.zero_le _⟩ ?_
  refine k_dia (b := (fX2_order T (4 : Int32) (2 : Int32)) = 0) (x := (1 : Int32)) (y := (0 : Int32)) (Wg := fun z9 => W _ _ _ _ _ _ _ _ _ _ _ _ _ _ _ (F0 m 37 ls (.int z9 :: _))) ?_ (fun t9 f9 => lv_if_ne (tgt := 36) hx hb dX2_likeOnes_29 (by decide) (fun c_x => lv_iconst (v := (0 : Int32)) hx hb dX2_likeOnes_36 qi_0 (f9 c_x)) (fun c_x => lv_iconst (v := (1 : Int32)) hx hb dX2_likeOnes_32 qi_1 (lv_goto (tgt := 37) hx hb dX2_likeOnes_33 (by decide) (t9 c_x))))
  refine lv_ior hx hb dX2_likeOnes_37 ?_
  refine lv_istore_n (lv' := [(3, .int ((((0 : Int32) ||| (if (fX2_order T (4 : Int32) (0 : Int32)) = 0 then (1 : Int32) else (0 : Int32))) ||| (if (fX2_order T (4 : Int32) (1 : Int32)) = 0 then (1 : Int32) else (0 : Int32))) ||| (if (fX2_order T (4 : Int32) (2 : Int32)) = 0 then (1 : Int32) else (0 : Int32)))), (4, .int (2 : Int32)), (2, .int (4 : Int32)), (1, .int ((((0 : Int32) + (if ((0 : Int32) ||| (if (fX2_order T (1 : Int32) (0 : Int32)) = 0 then (1 : Int32) else (0 : Int32))) = 0 then (0 : Int32) else (1 : Int32))) + (if (((0 : Int32) ||| (if (fX2_order T (2 : Int32) (0 : Int32)) = 0 then (1 : Int32) else (0 : Int32))) ||| (if (fX2_order T (2 : Int32) (1 : Int32)) = 0 then (1 : Int32) else (0 : Int32))) = 0 then (0 : Int32) else (1 : Int32))) + (if ((((0 : Int32) ||| (if (fX2_order T (3 : Int32) (0 : Int32)) = 0 then (1 : Int32) else (0 : Int32))) ||| (if (fX2_order T (3 : Int32) (1 : Int32)) = 0 then (1 : Int32) else (0 : Int32))) ||| (if (fX2_order T (3 : Int32) (2 : Int32)) = 0 then (1 : Int32) else (0 : Int32))) = 0 then (0 : Int32) else (1 : Int32)))), (0, .ref (b 0))]) hx hb dX2_likeOnes_38 rfl hl (Nat.le_of_ble_eq_true rfl) rfl (fun ls hl => ?_)
  refine lv_iinc (v := (3 : Int32)) (lv' := [(4, .int (3 : Int32)), (3, .int ((((0 : Int32) ||| (if (fX2_order T (4 : Int32) (0 : Int32)) = 0 then (1 : Int32) else (0 : Int32))) ||| (if (fX2_order T (4 : Int32) (1 : Int32)) = 0 then (1 : Int32) else (0 : Int32))) ||| (if (fX2_order T (4 : Int32) (2 : Int32)) = 0 then (1 : Int32) else (0 : Int32)))), (2, .int (4 : Int32)), (1, .int ((((0 : Int32) + (if ((0 : Int32) ||| (if (fX2_order T (1 : Int32) (0 : Int32)) = 0 then (1 : Int32) else (0 : Int32))) = 0 then (0 : Int32) else (1 : Int32))) + (if (((0 : Int32) ||| (if (fX2_order T (2 : Int32) (0 : Int32)) = 0 then (1 : Int32) else (0 : Int32))) ||| (if (fX2_order T (2 : Int32) (1 : Int32)) = 0 then (1 : Int32) else (0 : Int32))) = 0 then (0 : Int32) else (1 : Int32))) + (if ((((0 : Int32) ||| (if (fX2_order T (3 : Int32) (0 : Int32)) = 0 then (1 : Int32) else (0 : Int32))) ||| (if (fX2_order T (3 : Int32) (1 : Int32)) = 0 then (1 : Int32) else (0 : Int32))) ||| (if (fX2_order T (3 : Int32) (2 : Int32)) = 0 then (1 : Int32) else (0 : Int32))) = 0 then (0 : Int32) else (1 : Int32)))), (0, .ref (b 0))]) hx hb dX2_likeOnes_39 hl (k := 1) rfl (by first | rfl | decide) (Nat.le_of_ble_eq_true rfl) rfl (fun ls hl => ?_)
  refine lv_goto (tgt := 15) hx hb dX2_likeOnes_42 (by decide) ?_
  refine lv_iload hx hb dX2_likeOnes_15 (lv_at hl 0 rfl) ?_
  refine lv_iload_n hx hb dX2_likeOnes_17 rfl (lv_at hl 2 rfl) ?_
  refine lv_icmp_ge (tgt := 45) hx hb dX2_likeOnes_18 (by decide) (fun c_x => absurd c_x (by decide)) (fun _ => ?_)
  refine lv_iload_n hx hb dX2_likeOnes_21 rfl (lv_at hl 1 rfl) ?_
  refine lv_aload_n hx hb dX2_likeOnes_22 rfl (lv_at hl 4 rfl) ?_
  refine lv_iload_n hx hb dX2_likeOnes_23 rfl (lv_at hl 2 rfl) ?_
  refine lv_iload hx hb dX2_likeOnes_24 (lv_at hl 0 rfl) ?_
  refine rcVi (as := [.int (4 : Int32), .int (3 : Int32)]) (rest := [.int ((((0 : Int32) ||| (if (fX2_order T (4 : Int32) (0 : Int32)) = 0 then (1 : Int32) else (0 : Int32))) ||| (if (fX2_order T (4 : Int32) (1 : Int32)) = 0 then (1 : Int32) else (0 : Int32))) ||| (if (fX2_order T (4 : Int32) (2 : Int32)) = 0 then (1 : Int32) else (0 : Int32)))]) (cl := RX2) C (c_X2_order l G b T (4 : Int32) (3 : Int32) (vp_in_lit 4) (vp_in_lit 3) hT) F_X2_order rfl bw1561 bw1563 bw48 hE hP (rv4 hE.K hP (q0 := 0) rfl) hl.1 dX2_likeOnes_26 ⟨Nat.le_of_ble_eq_true rfl, Nat.le_of_ble_eq_true rfl⟩ rfl (Nat.le_of_ble_eq_true rfl) ⟨Nat.zero_le _, Nat.zero_le _⟩ ?_
  refine k_dia (b := (fX2_order T (4 : Int32) (3 : Int32)) = 0) (x := (1 : Int32)) (y := (0 : Int32)) (Wg := fun z9 => W _ _ _ _ _ _ _ _ _ _ _ _ _ _ _ (F0 m 37 ls (.int z9 :: _))) ?_ (fun t9 f9 => lv_if_ne (tgt := 36) hx hb dX2_likeOnes_29 (by decide) (fun c_x => lv_iconst (v := (0 : Int32)) hx hb dX2_likeOnes_36 qi_0 (f9 c_x)) (fun c_x => lv_iconst (v := (1 : Int32)) hx hb dX2_likeOnes_32 qi_1 (lv_goto (tgt := 37) hx hb dX2_likeOnes_33 (by decide) (t9 c_x))))
  refine lv_ior hx hb dX2_likeOnes_37 ?_
  refine lv_istore_n (lv' := [(3, .int (((((0 : Int32) ||| (if (fX2_order T (4 : Int32) (0 : Int32)) = 0 then (1 : Int32) else (0 : Int32))) ||| (if (fX2_order T (4 : Int32) (1 : Int32)) = 0 then (1 : Int32) else (0 : Int32))) ||| (if (fX2_order T (4 : Int32) (2 : Int32)) = 0 then (1 : Int32) else (0 : Int32))) ||| (if (fX2_order T (4 : Int32) (3 : Int32)) = 0 then (1 : Int32) else (0 : Int32)))), (4, .int (3 : Int32)), (2, .int (4 : Int32)), (1, .int ((((0 : Int32) + (if ((0 : Int32) ||| (if (fX2_order T (1 : Int32) (0 : Int32)) = 0 then (1 : Int32) else (0 : Int32))) = 0 then (0 : Int32) else (1 : Int32))) + (if (((0 : Int32) ||| (if (fX2_order T (2 : Int32) (0 : Int32)) = 0 then (1 : Int32) else (0 : Int32))) ||| (if (fX2_order T (2 : Int32) (1 : Int32)) = 0 then (1 : Int32) else (0 : Int32))) = 0 then (0 : Int32) else (1 : Int32))) + (if ((((0 : Int32) ||| (if (fX2_order T (3 : Int32) (0 : Int32)) = 0 then (1 : Int32) else (0 : Int32))) ||| (if (fX2_order T (3 : Int32) (1 : Int32)) = 0 then (1 : Int32) else (0 : Int32))) ||| (if (fX2_order T (3 : Int32) (2 : Int32)) = 0 then (1 : Int32) else (0 : Int32))) = 0 then (0 : Int32) else (1 : Int32)))), (0, .ref (b 0))]) hx hb dX2_likeOnes_38 rfl hl (Nat.le_of_ble_eq_true rfl) rfl (fun ls hl => ?_)
  refine lv_iinc (v := (4 : Int32)) (lv' := [(4, .int (4 : Int32)), (3, .int (((((0 : Int32) ||| (if (fX2_order T (4 : Int32) (0 : Int32)) = 0 then (1 : Int32) else (0 : Int32))) ||| (if (fX2_order T (4 : Int32) (1 : Int32)) = 0 then (1 : Int32) else (0 : Int32))) ||| (if (fX2_order T (4 : Int32) (2 : Int32)) = 0 then (1 : Int32) else (0 : Int32))) ||| (if (fX2_order T (4 : Int32) (3 : Int32)) = 0 then (1 : Int32) else (0 : Int32)))), (2, .int (4 : Int32)), (1, .int ((((0 : Int32) + (if ((0 : Int32) ||| (if (fX2_order T (1 : Int32) (0 : Int32)) = 0 then (1 : Int32) else (0 : Int32))) = 0 then (0 : Int32) else (1 : Int32))) + (if (((0 : Int32) ||| (if (fX2_order T (2 : Int32) (0 : Int32)) = 0 then (1 : Int32) else (0 : Int32))) ||| (if (fX2_order T (2 : Int32) (1 : Int32)) = 0 then (1 : Int32) else (0 : Int32))) = 0 then (0 : Int32) else (1 : Int32))) + (if ((((0 : Int32) ||| (if (fX2_order T (3 : Int32) (0 : Int32)) = 0 then (1 : Int32) else (0 : Int32))) ||| (if (fX2_order T (3 : Int32) (1 : Int32)) = 0 then (1 : Int32) else (0 : Int32))) ||| (if (fX2_order T (3 : Int32) (2 : Int32)) = 0 then (1 : Int32) else (0 : Int32))) = 0 then (0 : Int32) else (1 : Int32)))), (0, .ref (b 0))]) hx hb dX2_likeOnes_39 hl (k := 1) rfl (by first | rfl | decide) (Nat.le_of_ble_eq_true rfl) rfl (fun ls hl => ?_)
  refine lv_goto (tgt := 15) hx hb dX2_likeOnes_42 (by decide) ?_
  refine lv_iload hx hb dX2_likeOnes_15 (lv_at hl 0 rfl) ?_
  refine lv_iload_n hx hb dX2_likeOnes_17 rfl (lv_at hl 2 rfl) ?_
  refine lv_icmp_ge (tgt := 45) hx hb dX2_likeOnes_18 (by decide) (fun _ => ?_) (fun c_x => absurd (show (4 : Int32) ≤ (4 : Int32) from by decide) c_x)
  refine lv_iload_n hx hb dX2_likeOnes_45 rfl (lv_at hl 3 rfl) ?_
  refine lv_iload_n hx hb dX2_likeOnes_46 rfl (lv_at hl 1 rfl) ?_
  refine k_dia (b := (((((0 : Int32) ||| (if (fX2_order T (4 : Int32) (0 : Int32)) = 0 then (1 : Int32) else (0 : Int32))) ||| (if (fX2_order T (4 : Int32) (1 : Int32)) = 0 then (1 : Int32) else (0 : Int32))) ||| (if (fX2_order T (4 : Int32) (2 : Int32)) = 0 then (1 : Int32) else (0 : Int32))) ||| (if (fX2_order T (4 : Int32) (3 : Int32)) = 0 then (1 : Int32) else (0 : Int32))) = 0) (x := (0 : Int32)) (y := (1 : Int32)) (Wg := fun z9 => W _ _ _ _ _ _ _ _ _ _ _ _ _ _ _ (F0 m 55 ls (.int z9 :: _))) ?_ (fun t9 f9 => lv_if_eq (tgt := 54) hx hb dX2_likeOnes_47 (by decide) (fun c_x => lv_iconst (v := (0 : Int32)) hx hb dX2_likeOnes_54 qi_0 (t9 c_x)) (fun c_x => lv_iconst (v := (1 : Int32)) hx hb dX2_likeOnes_50 qi_1 (lv_goto (tgt := 55) hx hb dX2_likeOnes_51 (by decide) (f9 c_x))))
  refine lv_iadd hx hb dX2_likeOnes_55 ?_
  refine lv_istore_n (lv' := [(1, .int (((((0 : Int32) + (if ((0 : Int32) ||| (if (fX2_order T (1 : Int32) (0 : Int32)) = 0 then (1 : Int32) else (0 : Int32))) = 0 then (0 : Int32) else (1 : Int32))) + (if (((0 : Int32) ||| (if (fX2_order T (2 : Int32) (0 : Int32)) = 0 then (1 : Int32) else (0 : Int32))) ||| (if (fX2_order T (2 : Int32) (1 : Int32)) = 0 then (1 : Int32) else (0 : Int32))) = 0 then (0 : Int32) else (1 : Int32))) + (if ((((0 : Int32) ||| (if (fX2_order T (3 : Int32) (0 : Int32)) = 0 then (1 : Int32) else (0 : Int32))) ||| (if (fX2_order T (3 : Int32) (1 : Int32)) = 0 then (1 : Int32) else (0 : Int32))) ||| (if (fX2_order T (3 : Int32) (2 : Int32)) = 0 then (1 : Int32) else (0 : Int32))) = 0 then (0 : Int32) else (1 : Int32))) + (if (((((0 : Int32) ||| (if (fX2_order T (4 : Int32) (0 : Int32)) = 0 then (1 : Int32) else (0 : Int32))) ||| (if (fX2_order T (4 : Int32) (1 : Int32)) = 0 then (1 : Int32) else (0 : Int32))) ||| (if (fX2_order T (4 : Int32) (2 : Int32)) = 0 then (1 : Int32) else (0 : Int32))) ||| (if (fX2_order T (4 : Int32) (3 : Int32)) = 0 then (1 : Int32) else (0 : Int32))) = 0 then (0 : Int32) else (1 : Int32)))), (4, .int (4 : Int32)), (3, .int (((((0 : Int32) ||| (if (fX2_order T (4 : Int32) (0 : Int32)) = 0 then (1 : Int32) else (0 : Int32))) ||| (if (fX2_order T (4 : Int32) (1 : Int32)) = 0 then (1 : Int32) else (0 : Int32))) ||| (if (fX2_order T (4 : Int32) (2 : Int32)) = 0 then (1 : Int32) else (0 : Int32))) ||| (if (fX2_order T (4 : Int32) (3 : Int32)) = 0 then (1 : Int32) else (0 : Int32)))), (2, .int (4 : Int32)), (0, .ref (b 0))]) hx hb dX2_likeOnes_56 rfl hl (Nat.le_of_ble_eq_true rfl) rfl (fun ls hl => ?_)
  refine lv_iinc (v := (5 : Int32)) (lv' := [(2, .int (5 : Int32)), (1, .int (((((0 : Int32) + (if ((0 : Int32) ||| (if (fX2_order T (1 : Int32) (0 : Int32)) = 0 then (1 : Int32) else (0 : Int32))) = 0 then (0 : Int32) else (1 : Int32))) + (if (((0 : Int32) ||| (if (fX2_order T (2 : Int32) (0 : Int32)) = 0 then (1 : Int32) else (0 : Int32))) ||| (if (fX2_order T (2 : Int32) (1 : Int32)) = 0 then (1 : Int32) else (0 : Int32))) = 0 then (0 : Int32) else (1 : Int32))) + (if ((((0 : Int32) ||| (if (fX2_order T (3 : Int32) (0 : Int32)) = 0 then (1 : Int32) else (0 : Int32))) ||| (if (fX2_order T (3 : Int32) (1 : Int32)) = 0 then (1 : Int32) else (0 : Int32))) ||| (if (fX2_order T (3 : Int32) (2 : Int32)) = 0 then (1 : Int32) else (0 : Int32))) = 0 then (0 : Int32) else (1 : Int32))) + (if (((((0 : Int32) ||| (if (fX2_order T (4 : Int32) (0 : Int32)) = 0 then (1 : Int32) else (0 : Int32))) ||| (if (fX2_order T (4 : Int32) (1 : Int32)) = 0 then (1 : Int32) else (0 : Int32))) ||| (if (fX2_order T (4 : Int32) (2 : Int32)) = 0 then (1 : Int32) else (0 : Int32))) ||| (if (fX2_order T (4 : Int32) (3 : Int32)) = 0 then (1 : Int32) else (0 : Int32))) = 0 then (0 : Int32) else (1 : Int32)))), (4, .int (4 : Int32)), (3, .int (((((0 : Int32) ||| (if (fX2_order T (4 : Int32) (0 : Int32)) = 0 then (1 : Int32) else (0 : Int32))) ||| (if (fX2_order T (4 : Int32) (1 : Int32)) = 0 then (1 : Int32) else (0 : Int32))) ||| (if (fX2_order T (4 : Int32) (2 : Int32)) = 0 then (1 : Int32) else (0 : Int32))) ||| (if (fX2_order T (4 : Int32) (3 : Int32)) = 0 then (1 : Int32) else (0 : Int32)))), (0, .ref (b 0))]) hx hb dX2_likeOnes_57 hl (k := 3) rfl (by first | rfl | decide) (Nat.le_of_ble_eq_true rfl) rfl (fun ls hl => ?_)
  refine lv_goto (tgt := 4) hx hb dX2_likeOnes_60 (by decide) ?_
  refine lv_iload_n hx hb dX2_likeOnes_4 rfl (lv_at hl 0 rfl) ?_
  refine lv_bipush (v := (6 : Int32)) hx hb dX2_likeOnes_5 qb_6 ?_
  refine lv_icmp_ge (tgt := 63) hx hb dX2_likeOnes_7 (by decide) (fun c_x => absurd c_x (by decide)) (fun _ => ?_)
  refine lv_iconst (v := (0 : Int32)) hx hb dX2_likeOnes_10 qi_0 ?_
  refine lv_istore_n (lv' := [(3, .int (0 : Int32)), (2, .int (5 : Int32)), (1, .int (((((0 : Int32) + (if ((0 : Int32) ||| (if (fX2_order T (1 : Int32) (0 : Int32)) = 0 then (1 : Int32) else (0 : Int32))) = 0 then (0 : Int32) else (1 : Int32))) + (if (((0 : Int32) ||| (if (fX2_order T (2 : Int32) (0 : Int32)) = 0 then (1 : Int32) else (0 : Int32))) ||| (if (fX2_order T (2 : Int32) (1 : Int32)) = 0 then (1 : Int32) else (0 : Int32))) = 0 then (0 : Int32) else (1 : Int32))) + (if ((((0 : Int32) ||| (if (fX2_order T (3 : Int32) (0 : Int32)) = 0 then (1 : Int32) else (0 : Int32))) ||| (if (fX2_order T (3 : Int32) (1 : Int32)) = 0 then (1 : Int32) else (0 : Int32))) ||| (if (fX2_order T (3 : Int32) (2 : Int32)) = 0 then (1 : Int32) else (0 : Int32))) = 0 then (0 : Int32) else (1 : Int32))) + (if (((((0 : Int32) ||| (if (fX2_order T (4 : Int32) (0 : Int32)) = 0 then (1 : Int32) else (0 : Int32))) ||| (if (fX2_order T (4 : Int32) (1 : Int32)) = 0 then (1 : Int32) else (0 : Int32))) ||| (if (fX2_order T (4 : Int32) (2 : Int32)) = 0 then (1 : Int32) else (0 : Int32))) ||| (if (fX2_order T (4 : Int32) (3 : Int32)) = 0 then (1 : Int32) else (0 : Int32))) = 0 then (0 : Int32) else (1 : Int32)))), (4, .int (4 : Int32)), (0, .ref (b 0))]) hx hb dX2_likeOnes_11 rfl hl (Nat.le_of_ble_eq_true rfl) rfl (fun ls hl => ?_)
  refine lv_iconst (v := (0 : Int32)) hx hb dX2_likeOnes_12 qi_0 ?_
  refine lv_istore (lv' := [(4, .int (0 : Int32)), (3, .int (0 : Int32)), (2, .int (5 : Int32)), (1, .int (((((0 : Int32) + (if ((0 : Int32) ||| (if (fX2_order T (1 : Int32) (0 : Int32)) = 0 then (1 : Int32) else (0 : Int32))) = 0 then (0 : Int32) else (1 : Int32))) + (if (((0 : Int32) ||| (if (fX2_order T (2 : Int32) (0 : Int32)) = 0 then (1 : Int32) else (0 : Int32))) ||| (if (fX2_order T (2 : Int32) (1 : Int32)) = 0 then (1 : Int32) else (0 : Int32))) = 0 then (0 : Int32) else (1 : Int32))) + (if ((((0 : Int32) ||| (if (fX2_order T (3 : Int32) (0 : Int32)) = 0 then (1 : Int32) else (0 : Int32))) ||| (if (fX2_order T (3 : Int32) (1 : Int32)) = 0 then (1 : Int32) else (0 : Int32))) ||| (if (fX2_order T (3 : Int32) (2 : Int32)) = 0 then (1 : Int32) else (0 : Int32))) = 0 then (0 : Int32) else (1 : Int32))) + (if (((((0 : Int32) ||| (if (fX2_order T (4 : Int32) (0 : Int32)) = 0 then (1 : Int32) else (0 : Int32))) ||| (if (fX2_order T (4 : Int32) (1 : Int32)) = 0 then (1 : Int32) else (0 : Int32))) ||| (if (fX2_order T (4 : Int32) (2 : Int32)) = 0 then (1 : Int32) else (0 : Int32))) ||| (if (fX2_order T (4 : Int32) (3 : Int32)) = 0 then (1 : Int32) else (0 : Int32))) = 0 then (0 : Int32) else (1 : Int32)))), (0, .ref (b 0))]) hx hb dX2_likeOnes_13 hl (Nat.le_of_ble_eq_true rfl) rfl (fun ls hl => ?_)
  refine lv_iload hx hb dX2_likeOnes_15 (lv_at hl 0 rfl) ?_
  refine lv_iload_n hx hb dX2_likeOnes_17 rfl (lv_at hl 2 rfl) ?_
  refine lv_icmp_ge (tgt := 45) hx hb dX2_likeOnes_18 (by decide) (fun c_x => absurd c_x (by decide)) (fun _ => ?_)
  refine lv_iload_n hx hb dX2_likeOnes_21 rfl (lv_at hl 1 rfl) ?_
  refine lv_aload_n hx hb dX2_likeOnes_22 rfl (lv_at hl 4 rfl) ?_
  refine lv_iload_n hx hb dX2_likeOnes_23 rfl (lv_at hl 2 rfl) ?_
  refine lv_iload hx hb dX2_likeOnes_24 (lv_at hl 0 rfl) ?_
  refine rcVi (as := [.int (5 : Int32), .int (0 : Int32)]) (rest := [.int (0 : Int32)]) (cl := RX2) C (c_X2_order l G b T (5 : Int32) (0 : Int32) (vp_in_lit 5) (vp_in_lit 0) hT) F_X2_order rfl bw1561 bw1563 bw48 hE hP (rv4 hE.K hP (q0 := 0) rfl) hl.1 dX2_likeOnes_26 ⟨Nat.le_of_ble_eq_true rfl, Nat.le_of_ble_eq_true rfl⟩ rfl (Nat.le_of_ble_eq_true rfl) ⟨Nat.zero_le _, Nat.zero_le _⟩ ?_
  refine k_dia (b := (fX2_order T (5 : Int32) (0 : Int32)) = 0) (x := (1 : Int32)) (y := (0 : Int32)) (Wg := fun z9 => W _ _ _ _ _ _ _ _ _ _ _ _ _ _ _ (F0 m 37 ls (.int z9 :: _))) ?_ (fun t9 f9 => lv_if_ne (tgt := 36) hx hb dX2_likeOnes_29 (by decide) (fun c_x => lv_iconst (v := (0 : Int32)) hx hb dX2_likeOnes_36 qi_0 (f9 c_x)) (fun c_x => lv_iconst (v := (1 : Int32)) hx hb dX2_likeOnes_32 qi_1 (lv_goto (tgt := 37) hx hb dX2_likeOnes_33 (by decide) (t9 c_x))))
  refine lv_ior hx hb dX2_likeOnes_37 ?_
  refine lv_istore_n (lv' := [(3, .int ((0 : Int32) ||| (if (fX2_order T (5 : Int32) (0 : Int32)) = 0 then (1 : Int32) else (0 : Int32)))), (4, .int (0 : Int32)), (2, .int (5 : Int32)), (1, .int (((((0 : Int32) + (if ((0 : Int32) ||| (if (fX2_order T (1 : Int32) (0 : Int32)) = 0 then (1 : Int32) else (0 : Int32))) = 0 then (0 : Int32) else (1 : Int32))) + (if (((0 : Int32) ||| (if (fX2_order T (2 : Int32) (0 : Int32)) = 0 then (1 : Int32) else (0 : Int32))) ||| (if (fX2_order T (2 : Int32) (1 : Int32)) = 0 then (1 : Int32) else (0 : Int32))) = 0 then (0 : Int32) else (1 : Int32))) + (if ((((0 : Int32) ||| (if (fX2_order T (3 : Int32) (0 : Int32)) = 0 then (1 : Int32) else (0 : Int32))) ||| (if (fX2_order T (3 : Int32) (1 : Int32)) = 0 then (1 : Int32) else (0 : Int32))) ||| (if (fX2_order T (3 : Int32) (2 : Int32)) = 0 then (1 : Int32) else (0 : Int32))) = 0 then (0 : Int32) else (1 : Int32))) + (if (((((0 : Int32) ||| (if (fX2_order T (4 : Int32) (0 : Int32)) = 0 then (1 : Int32) else (0 : Int32))) ||| (if (fX2_order T (4 : Int32) (1 : Int32)) = 0 then (1 : Int32) else (0 : Int32))) ||| (if (fX2_order T (4 : Int32) (2 : Int32)) = 0 then (1 : Int32) else (0 : Int32))) ||| (if (fX2_order T (4 : Int32) (3 : Int32)) = 0 then (1 : Int32) else (0 : Int32))) = 0 then (0 : Int32) else (1 : Int32)))), (0, .ref (b 0))]) hx hb dX2_likeOnes_38 rfl hl (Nat.le_of_ble_eq_true rfl) rfl (fun ls hl => ?_)
  refine lv_iinc (v := (1 : Int32)) (lv' := [(4, .int (1 : Int32)), (3, .int ((0 : Int32) ||| (if (fX2_order T (5 : Int32) (0 : Int32)) = 0 then (1 : Int32) else (0 : Int32)))), (2, .int (5 : Int32)), (1, .int (((((0 : Int32) + (if ((0 : Int32) ||| (if (fX2_order T (1 : Int32) (0 : Int32)) = 0 then (1 : Int32) else (0 : Int32))) = 0 then (0 : Int32) else (1 : Int32))) + (if (((0 : Int32) ||| (if (fX2_order T (2 : Int32) (0 : Int32)) = 0 then (1 : Int32) else (0 : Int32))) ||| (if (fX2_order T (2 : Int32) (1 : Int32)) = 0 then (1 : Int32) else (0 : Int32))) = 0 then (0 : Int32) else (1 : Int32))) + (if ((((0 : Int32) ||| (if (fX2_order T (3 : Int32) (0 : Int32)) = 0 then (1 : Int32) else (0 : Int32))) ||| (if (fX2_order T (3 : Int32) (1 : Int32)) = 0 then (1 : Int32) else (0 : Int32))) ||| (if (fX2_order T (3 : Int32) (2 : Int32)) = 0 then (1 : Int32) else (0 : Int32))) = 0 then (0 : Int32) else (1 : Int32))) + (if (((((0 : Int32) ||| (if (fX2_order T (4 : Int32) (0 : Int32)) = 0 then (1 : Int32) else (0 : Int32))) ||| (if (fX2_order T (4 : Int32) (1 : Int32)) = 0 then (1 : Int32) else (0 : Int32))) ||| (if (fX2_order T (4 : Int32) (2 : Int32)) = 0 then (1 : Int32) else (0 : Int32))) ||| (if (fX2_order T (4 : Int32) (3 : Int32)) = 0 then (1 : Int32) else (0 : Int32))) = 0 then (0 : Int32) else (1 : Int32)))), (0, .ref (b 0))]) hx hb dX2_likeOnes_39 hl (k := 1) rfl (by first | rfl | decide) (Nat.le_of_ble_eq_true rfl) rfl (fun ls hl => ?_)
  refine lv_goto (tgt := 15) hx hb dX2_likeOnes_42 (by decide) ?_
  refine lv_iload hx hb dX2_likeOnes_15 (lv_at hl 0 rfl) ?_
  refine lv_iload_n hx hb dX2_likeOnes_17 rfl (lv_at hl 2 rfl) ?_
  refine lv_icmp_ge (tgt := 45) hx hb dX2_likeOnes_18 (by decide) (fun c_x => absurd c_x (by decide)) (fun _ => ?_)
  refine lv_iload_n hx hb dX2_likeOnes_21 rfl (lv_at hl 1 rfl) ?_
  refine lv_aload_n hx hb dX2_likeOnes_22 rfl (lv_at hl 4 rfl) ?_
  refine lv_iload_n hx hb dX2_likeOnes_23 rfl (lv_at hl 2 rfl) ?_
  refine lv_iload hx hb dX2_likeOnes_24 (lv_at hl 0 rfl) ?_
  refine rcVi (as := [.int (5 : Int32), .int (1 : Int32)]) (rest := [.int ((0 : Int32) ||| (if (fX2_order T (5 : Int32) (0 : Int32)) = 0 then (1 : Int32) else (0 : Int32)))]) (cl := RX2) C (c_X2_order l G b T (5 : Int32) (1 : Int32) (vp_in_lit 5) (vp_in_lit 1) hT) F_X2_order rfl bw1561 bw1563 bw48 hE hP (rv4 hE.K hP (q0 := 0) rfl) hl.1 dX2_likeOnes_26 ⟨Nat.le_of_ble_eq_true rfl, Nat.le_of_ble_eq_true rfl⟩ rfl (Nat.le_of_ble_eq_true rfl) ⟨Nat.zero_le _, Nat.zero_le _⟩ ?_
  refine k_dia (b := (fX2_order T (5 : Int32) (1 : Int32)) = 0) (x := (1 : Int32)) (y := (0 : Int32)) (Wg := fun z9 => W _ _ _ _ _ _ _ _ _ _ _ _ _ _ _ (F0 m 37 ls (.int z9 :: _))) ?_ (fun t9 f9 => lv_if_ne (tgt := 36) hx hb dX2_likeOnes_29 (by decide) (fun c_x => lv_iconst (v := (0 : Int32)) hx hb dX2_likeOnes_36 qi_0 (f9 c_x)) (fun c_x => lv_iconst (v := (1 : Int32)) hx hb dX2_likeOnes_32 qi_1 (lv_goto (tgt := 37) hx hb dX2_likeOnes_33 (by decide) (t9 c_x))))
  refine lv_ior hx hb dX2_likeOnes_37 ?_
  refine lv_istore_n (lv' := [(3, .int (((0 : Int32) ||| (if (fX2_order T (5 : Int32) (0 : Int32)) = 0 then (1 : Int32) else (0 : Int32))) ||| (if (fX2_order T (5 : Int32) (1 : Int32)) = 0 then (1 : Int32) else (0 : Int32)))), (4, .int (1 : Int32)), (2, .int (5 : Int32)), (1, .int (((((0 : Int32) + (if ((0 : Int32) ||| (if (fX2_order T (1 : Int32) (0 : Int32)) = 0 then (1 : Int32) else (0 : Int32))) = 0 then (0 : Int32) else (1 : Int32))) + (if (((0 : Int32) ||| (if (fX2_order T (2 : Int32) (0 : Int32)) = 0 then (1 : Int32) else (0 : Int32))) ||| (if (fX2_order T (2 : Int32) (1 : Int32)) = 0 then (1 : Int32) else (0 : Int32))) = 0 then (0 : Int32) else (1 : Int32))) + (if ((((0 : Int32) ||| (if (fX2_order T (3 : Int32) (0 : Int32)) = 0 then (1 : Int32) else (0 : Int32))) ||| (if (fX2_order T (3 : Int32) (1 : Int32)) = 0 then (1 : Int32) else (0 : Int32))) ||| (if (fX2_order T (3 : Int32) (2 : Int32)) = 0 then (1 : Int32) else (0 : Int32))) = 0 then (0 : Int32) else (1 : Int32))) + (if (((((0 : Int32) ||| (if (fX2_order T (4 : Int32) (0 : Int32)) = 0 then (1 : Int32) else (0 : Int32))) ||| (if (fX2_order T (4 : Int32) (1 : Int32)) = 0 then (1 : Int32) else (0 : Int32))) ||| (if (fX2_order T (4 : Int32) (2 : Int32)) = 0 then (1 : Int32) else (0 : Int32))) ||| (if (fX2_order T (4 : Int32) (3 : Int32)) = 0 then (1 : Int32) else (0 : Int32))) = 0 then (0 : Int32) else (1 : Int32)))), (0, .ref (b 0))]) hx hb dX2_likeOnes_38 rfl hl (Nat.le_of_ble_eq_true rfl) rfl (fun ls hl => ?_)
  refine lv_iinc (v := (2 : Int32)) (lv' := [(4, .int (2 : Int32)), (3, .int (((0 : Int32) ||| (if (fX2_order T (5 : Int32) (0 : Int32)) = 0 then (1 : Int32) else (0 : Int32))) ||| (if (fX2_order T (5 : Int32) (1 : Int32)) = 0 then (1 : Int32) else (0 : Int32)))), (2, .int (5 : Int32)), (1, .int (((((0 : Int32) + (if ((0 : Int32) ||| (if (fX2_order T (1 : Int32) (0 : Int32)) = 0 then (1 : Int32) else (0 : Int32))) = 0 then (0 : Int32) else (1 : Int32))) + (if (((0 : Int32) ||| (if (fX2_order T (2 : Int32) (0 : Int32)) = 0 then (1 : Int32) else (0 : Int32))) ||| (if (fX2_order T (2 : Int32) (1 : Int32)) = 0 then (1 : Int32) else (0 : Int32))) = 0 then (0 : Int32) else (1 : Int32))) + (if ((((0 : Int32) ||| (if (fX2_order T (3 : Int32) (0 : Int32)) = 0 then (1 : Int32) else (0 : Int32))) ||| (if (fX2_order T (3 : Int32) (1 : Int32)) = 0 then (1 : Int32) else (0 : Int32))) ||| (if (fX2_order T (3 : Int32) (2 : Int32)) = 0 then (1 : Int32) else (0 : Int32))) = 0 then (0 : Int32) else (1 : Int32))) + (if (((((0 : Int32) ||| (if (fX2_order T (4 : Int32) (0 : Int32)) = 0 then (1 : Int32) else (0 : Int32))) ||| (if (fX2_order T (4 : Int32) (1 : Int32)) = 0 then (1 : Int32) else (0 : Int32))) ||| (if (fX2_order T (4 : Int32) (2 : Int32)) = 0 then (1 : Int32) else (0 : Int32))) ||| (if (fX2_order T (4 : Int32) (3 : Int32)) = 0 then (1 : Int32) else (0 : Int32))) = 0 then (0 : Int32) else (1 : Int32)))), (0, .ref (b 0))]) hx hb dX2_likeOnes_39 hl (k := 1) rfl (by first | rfl | decide) (Nat.le_of_ble_eq_true rfl) rfl (fun ls hl => ?_)
  refine lv_goto (tgt := 15) hx hb dX2_likeOnes_42 (by decide) ?_
  refine lv_iload hx hb dX2_likeOnes_15 (lv_at hl 0 rfl) ?_
  refine lv_iload_n hx hb dX2_likeOnes_17 rfl (lv_at hl 2 rfl) ?_
  refine lv_icmp_ge (tgt := 45) hx hb dX2_likeOnes_18 (by decide) (fun c_x => absurd c_x (by decide)) (fun _ => ?_)
  refine lv_iload_n hx hb dX2_likeOnes_21 rfl (lv_at hl 1 rfl) ?_
  refine lv_aload_n hx hb dX2_likeOnes_22 rfl (lv_at hl 4 rfl) ?_
  refine lv_iload_n hx hb dX2_likeOnes_23 rfl (lv_at hl 2 rfl) ?_
  refine lv_iload hx hb dX2_likeOnes_24 (lv_at hl 0 rfl) ?_
  refine rcVi (as := [.int (5 : Int32), .int (2 : Int32)]) (rest := [.int (((0 : Int32) ||| (if (fX2_order T (5 : Int32) (0 : Int32)) = 0 then (1 : Int32) else (0 : Int32))) ||| (if (fX2_order T (5 : Int32) (1 : Int32)) = 0 then (1 : Int32) else (0 : Int32)))]) (cl := RX2) C (c_X2_order l G b T (5 : Int32) (2 : Int32) (vp_in_lit 5) (vp_in_lit 2) hT) F_X2_order rfl bw1561 bw1563 bw48 hE hP (rv4 hE.K hP (q0 := 0) rfl) hl.1 dX2_likeOnes_26 ⟨Nat.le_of_ble_eq_true rfl, Nat.le_of_ble_eq_true rfl⟩ rfl (Nat.le_of_ble_eq_true rfl) ⟨Nat.zero_le _, Nat.zero_le _⟩ ?_
  refine k_dia (b := (fX2_order T (5 : Int32) (2 : Int32)) = 0) (x := (1 : Int32)) (y := (0 : Int32)) (Wg := fun z9 => W _ _ _ _ _ _ _ _ _ _ _ _ _ _ _ (F0 m 37 ls (.int z9 :: _))) ?_ (fun t9 f9 => lv_if_ne (tgt := 36) hx hb dX2_likeOnes_29 (by decide) (fun c_x => lv_iconst (v := (0 : Int32)) hx hb dX2_likeOnes_36 qi_0 (f9 c_x)) (fun c_x => lv_iconst (v := (1 : Int32)) hx hb dX2_likeOnes_32 qi_1 (lv_goto (tgt := 37) hx hb dX2_likeOnes_33 (by decide) (t9 c_x))))
  refine lv_ior hx hb dX2_likeOnes_37 ?_
  refine lv_istore_n (lv' := [(3, .int ((((0 : Int32) ||| (if (fX2_order T (5 : Int32) (0 : Int32)) = 0 then (1 : Int32) else (0 : Int32))) ||| (if (fX2_order T (5 : Int32) (1 : Int32)) = 0 then (1 : Int32) else (0 : Int32))) ||| (if (fX2_order T (5 : Int32) (2 : Int32)) = 0 then (1 : Int32) else (0 : Int32)))), (4, .int (2 : Int32)), (2, .int (5 : Int32)), (1, .int (((((0 : Int32) + (if ((0 : Int32) ||| (if (fX2_order T (1 : Int32) (0 : Int32)) = 0 then (1 : Int32) else (0 : Int32))) = 0 then (0 : Int32) else (1 : Int32))) + (if (((0 : Int32) ||| (if (fX2_order T (2 : Int32) (0 : Int32)) = 0 then (1 : Int32) else (0 : Int32))) ||| (if (fX2_order T (2 : Int32) (1 : Int32)) = 0 then (1 : Int32) else (0 : Int32))) = 0 then (0 : Int32) else (1 : Int32))) + (if ((((0 : Int32) ||| (if (fX2_order T (3 : Int32) (0 : Int32)) = 0 then (1 : Int32) else (0 : Int32))) ||| (if (fX2_order T (3 : Int32) (1 : Int32)) = 0 then (1 : Int32) else (0 : Int32))) ||| (if (fX2_order T (3 : Int32) (2 : Int32)) = 0 then (1 : Int32) else (0 : Int32))) = 0 then (0 : Int32) else (1 : Int32))) + (if (((((0 : Int32) ||| (if (fX2_order T (4 : Int32) (0 : Int32)) = 0 then (1 : Int32) else (0 : Int32))) ||| (if (fX2_order T (4 : Int32) (1 : Int32)) = 0 then (1 : Int32) else (0 : Int32))) ||| (if (fX2_order T (4 : Int32) (2 : Int32)) = 0 then (1 : Int32) else (0 : Int32))) ||| (if (fX2_order T (4 : Int32) (3 : Int32)) = 0 then (1 : Int32) else (0 : Int32))) = 0 then (0 : Int32) else (1 : Int32)))), (0, .ref (b 0))]) hx hb dX2_likeOnes_38 rfl hl (Nat.le_of_ble_eq_true rfl) rfl (fun ls hl => ?_)
  refine lv_iinc (v := (3 : Int32)) (lv' := [(4, .int (3 : Int32)), (3, .int ((((0 : Int32) ||| (if (fX2_order T (5 : Int32) (0 : Int32)) = 0 then (1 : Int32) else (0 : Int32))) ||| (if (fX2_order T (5 : Int32) (1 : Int32)) = 0 then (1 : Int32) else (0 : Int32))) ||| (if (fX2_order T (5 : Int32) (2 : Int32)) = 0 then (1 : Int32) else (0 : Int32)))), (2, .int (5 : Int32)), (1, .int (((((0 : Int32) + (if ((0 : Int32) ||| (if (fX2_order T (1 : Int32) (0 : Int32)) = 0 then (1 : Int32) else (0 : Int32))) = 0 then (0 : Int32) else (1 : Int32))) + (if (((0 : Int32) ||| (if (fX2_order T (2 : Int32) (0 : Int32)) = 0 then (1 : Int32) else (0 : Int32))) ||| (if (fX2_order T (2 : Int32) (1 : Int32)) = 0 then (1 : Int32) else (0 : Int32))) = 0 then (0 : Int32) else (1 : Int32))) + (if ((((0 : Int32) ||| (if (fX2_order T (3 : Int32) (0 : Int32)) = 0 then (1 : Int32) else (0 : Int32))) ||| (if (fX2_order T (3 : Int32) (1 : Int32)) = 0 then (1 : Int32) else (0 : Int32))) ||| (if (fX2_order T (3 : Int32) (2 : Int32)) = 0 then (1 : Int32) else (0 : Int32))) = 0 then (0 : Int32) else (1 : Int32))) + (if (((((0 : Int32) ||| (if (fX2_order T (4 : Int32) (0 : Int32)) = 0 then (1 : Int32) else (0 : Int32))) ||| (if (fX2_order T (4 : Int32) (1 : Int32)) = 0 then (1 : Int32) else (0 : Int32))) ||| (if (fX2_order T (4 : Int32) (2 : Int32)) = 0 then (1 : Int32) else (0 : Int32))) ||| (if (fX2_order T (4 : Int32) (3 : Int32)) = 0 then (1 : Int32) else (0 : Int32))) = 0 then (0 : Int32) else (1 : Int32)))), (0, .ref (b 0))]) hx hb dX2_likeOnes_39 hl (k := 1) rfl (by first | rfl | decide) (Nat.le_of_ble_eq_true rfl) rfl (fun ls hl => ?_)
  refine lv_goto (tgt := 15) hx hb dX2_likeOnes_42 (by decide) ?_
  refine lv_iload hx hb dX2_likeOnes_15 (lv_at hl 0 rfl) ?_
  refine lv_iload_n hx hb dX2_likeOnes_17 rfl (lv_at hl 2 rfl) ?_
  refine lv_icmp_ge (tgt := 45) hx hb dX2_likeOnes_18 (by decide) (fun c_x => absurd c_x (by decide)) (fun _ => ?_)
  refine lv_iload_n hx hb dX2_likeOnes_21 rfl (lv_at hl 1 rfl) ?_
  refine lv_aload_n hx hb dX2_likeOnes_22 rfl (lv_at hl 4 rfl) ?_
  refine lv_iload_n hx hb dX2_likeOnes_23 rfl (lv_at hl 2 rfl) ?_
  refine lv_iload hx hb dX2_likeOnes_24 (lv_at hl 0 rfl) ?_
  refine rcVi (as := [.int (5 : Int32), .int (3 : Int32)]) (rest := [.int ((((0 : Int32) ||| (if (fX2_order T (5 : Int32) (0 : Int32)) = 0 then (1 : Int32) else (0 : Int32))) ||| (if (fX2_order T (5 : Int32) (1 : Int32)) = 0 then (1 : Int32) else (0 : Int32))) ||| (if (fX2_order T (5 : Int32) (2 : Int32)) = 0 then (1 : Int32) else (0 : Int32)))]) (cl := RX2) C (c_X2_order l G b T (5 : Int32) (3 : Int32) (vp_in_lit 5) (vp_in_lit 3) hT) F_X2_order rfl bw1561 bw1563 bw48 hE hP (rv4 hE.K hP (q0 := 0) rfl) hl.1 dX2_likeOnes_26 ⟨Nat.le_of_ble_eq_true rfl, Nat.le_of_ble_eq_true rfl⟩ rfl (Nat.le_of_ble_eq_true rfl) ⟨Nat.zero_le _, Nat.zero_le _⟩ ?_
  refine k_dia (b := (fX2_order T (5 : Int32) (3 : Int32)) = 0) (x := (1 : Int32)) (y := (0 : Int32)) (Wg := fun z9 => W _ _ _ _ _ _ _ _ _ _ _ _ _ _ _ (F0 m 37 ls (.int z9 :: _))) ?_ (fun t9 f9 => lv_if_ne (tgt := 36) hx hb dX2_likeOnes_29 (by decide) (fun c_x => lv_iconst (v := (0 : Int32)) hx hb dX2_likeOnes_36 qi_0 (f9 c_x)) (fun c_x => lv_iconst (v := (1 : Int32)) hx hb dX2_likeOnes_32 qi_1 (lv_goto (tgt := 37) hx hb dX2_likeOnes_33 (by decide) (t9 c_x))))
  refine lv_ior hx hb dX2_likeOnes_37 ?_
  refine lv_istore_n (lv' := [(3, .int (((((0 : Int32) ||| (if (fX2_order T (5 : Int32) (0 : Int32)) = 0 then (1 : Int32) else (0 : Int32))) ||| (if (fX2_order T (5 : Int32) (1 : Int32)) = 0 then (1 : Int32) else (0 : Int32))) ||| (if (fX2_order T (5 : Int32) (2 : Int32)) = 0 then (1 : Int32) else (0 : Int32))) ||| (if (fX2_order T (5 : Int32) (3 : Int32)) = 0 then (1 : Int32) else (0 : Int32)))), (4, .int (3 : Int32)), (2, .int (5 : Int32)), (1, .int (((((0 : Int32) + (if ((0 : Int32) ||| (if (fX2_order T (1 : Int32) (0 : Int32)) = 0 then (1 : Int32) else (0 : Int32))) = 0 then (0 : Int32) else (1 : Int32))) + (if (((0 : Int32) ||| (if (fX2_order T (2 : Int32) (0 : Int32)) = 0 then (1 : Int32) else (0 : Int32))) ||| (if (fX2_order T (2 : Int32) (1 : Int32)) = 0 then (1 : Int32) else (0 : Int32))) = 0 then (0 : Int32) else (1 : Int32))) + (if ((((0 : Int32) ||| (if (fX2_order T (3 : Int32) (0 : Int32)) = 0 then (1 : Int32) else (0 : Int32))) ||| (if (fX2_order T (3 : Int32) (1 : Int32)) = 0 then (1 : Int32) else (0 : Int32))) ||| (if (fX2_order T (3 : Int32) (2 : Int32)) = 0 then (1 : Int32) else (0 : Int32))) = 0 then (0 : Int32) else (1 : Int32))) + (if (((((0 : Int32) ||| (if (fX2_order T (4 : Int32) (0 : Int32)) = 0 then (1 : Int32) else (0 : Int32))) ||| (if (fX2_order T (4 : Int32) (1 : Int32)) = 0 then (1 : Int32) else (0 : Int32))) ||| (if (fX2_order T (4 : Int32) (2 : Int32)) = 0 then (1 : Int32) else (0 : Int32))) ||| (if (fX2_order T (4 : Int32) (3 : Int32)) = 0 then (1 : Int32) else (0 : Int32))) = 0 then (0 : Int32) else (1 : Int32)))), (0, .ref (b 0))]) hx hb dX2_likeOnes_38 rfl hl (Nat.le_of_ble_eq_true rfl) rfl (fun ls hl => ?_)
  refine lv_iinc (v := (4 : Int32)) (lv' := [(4, .int (4 : Int32)), (3, .int (((((0 : Int32) ||| (if (fX2_order T (5 : Int32) (0 : Int32)) = 0 then (1 : Int32) else (0 : Int32))) ||| (if (fX2_order T (5 : Int32) (1 : Int32)) = 0 then (1 : Int32) else (0 : Int32))) ||| (if (fX2_order T (5 : Int32) (2 : Int32)) = 0 then (1 : Int32) else (0 : Int32))) ||| (if (fX2_order T (5 : Int32) (3 : Int32)) = 0 then (1 : Int32) else (0 : Int32)))), (2, .int (5 : Int32)), (1, .int (((((0 : Int32) + (if ((0 : Int32) ||| (if (fX2_order T (1 : Int32) (0 : Int32)) = 0 then (1 : Int32) else (0 : Int32))) = 0 then (0 : Int32) else (1 : Int32))) + (if (((0 : Int32) ||| (if (fX2_order T (2 : Int32) (0 : Int32)) = 0 then (1 : Int32) else (0 : Int32))) ||| (if (fX2_order T (2 : Int32) (1 : Int32)) = 0 then (1 : Int32) else (0 : Int32))) = 0 then (0 : Int32) else (1 : Int32))) + (if ((((0 : Int32) ||| (if (fX2_order T (3 : Int32) (0 : Int32)) = 0 then (1 : Int32) else (0 : Int32))) ||| (if (fX2_order T (3 : Int32) (1 : Int32)) = 0 then (1 : Int32) else (0 : Int32))) ||| (if (fX2_order T (3 : Int32) (2 : Int32)) = 0 then (1 : Int32) else (0 : Int32))) = 0 then (0 : Int32) else (1 : Int32))) + (if (((((0 : Int32) ||| (if (fX2_order T (4 : Int32) (0 : Int32)) = 0 then (1 : Int32) else (0 : Int32))) ||| (if (fX2_order T (4 : Int32) (1 : Int32)) = 0 then (1 : Int32) else (0 : Int32))) ||| (if (fX2_order T (4 : Int32) (2 : Int32)) = 0 then (1 : Int32) else (0 : Int32))) ||| (if (fX2_order T (4 : Int32) (3 : Int32)) = 0 then (1 : Int32) else (0 : Int32))) = 0 then (0 : Int32) else (1 : Int32)))), (0, .ref (b 0))]) hx hb dX2_likeOnes_39 hl (k := 1) rfl (by first | rfl | decide) (Nat.le_of_ble_eq_true rfl) rfl (fun ls hl => ?_)
  refine lv_goto (tgt := 15) hx hb dX2_likeOnes_42 (by decide) ?_
  refine lv_iload hx hb dX2_likeOnes_15 (lv_at hl 0 rfl) ?_
  refine lv_iload_n hx hb dX2_likeOnes_17 rfl (lv_at hl 2 rfl) ?_
  refine lv_icmp_ge (tgt := 45) hx hb dX2_likeOnes_18 (by decide) (fun c_x => absurd c_x (by decide)) (fun _ => ?_)
  refine lv_iload_n hx hb dX2_likeOnes_21 rfl (lv_at hl 1 rfl) ?_
  refine lv_aload_n hx hb dX2_likeOnes_22 rfl (lv_at hl 4 rfl) ?_
  refine lv_iload_n hx hb dX2_likeOnes_23 rfl (lv_at hl 2 rfl) ?_
  refine lv_iload hx hb dX2_likeOnes_24 (lv_at hl 0 rfl) ?_
  refine rcVi (as := [.int (5 : Int32), .int (4 : Int32)]) (rest := [.int (((((0 : Int32) ||| (if (fX2_order T (5 : Int32) (0 : Int32)) = 0 then (1 : Int32) else (0 : Int32))) ||| (if (fX2_order T (5 : Int32) (1 : Int32)) = 0 then (1 : Int32) else (0 : Int32))) ||| (if (fX2_order T (5 : Int32) (2 : Int32)) = 0 then (1 : Int32) else (0 : Int32))) ||| (if (fX2_order T (5 : Int32) (3 : Int32)) = 0 then (1 : Int32) else (0 : Int32)))]) (cl := RX2) C (c_X2_order l G b T (5 : Int32) (4 : Int32) (vp_in_lit 5) (vp_in_lit 4) hT) F_X2_order rfl bw1561 bw1563 bw48 hE hP (rv4 hE.K hP (q0 := 0) rfl) hl.1 dX2_likeOnes_26 ⟨Nat.le_of_ble_eq_true rfl, Nat.le_of_ble_eq_true rfl⟩ rfl (Nat.le_of_ble_eq_true rfl) ⟨Nat.zero_le _, Nat.zero_le _⟩ ?_
  refine k_dia (b := (fX2_order T (5 : Int32) (4 : Int32)) = 0) (x := (1 : Int32)) (y := (0 : Int32)) (Wg := fun z9 => W _ _ _ _ _ _ _ _ _ _ _ _ _ _ _ (F0 m 37 ls (.int z9 :: _))) ?_ (fun t9 f9 => lv_if_ne (tgt := 36) hx hb dX2_likeOnes_29 (by decide) (fun c_x => lv_iconst (v := (0 : Int32)) hx hb dX2_likeOnes_36 qi_0 (f9 c_x)) (fun c_x => lv_iconst (v := (1 : Int32)) hx hb dX2_likeOnes_32 qi_1 (lv_goto (tgt := 37) hx hb dX2_likeOnes_33 (by decide) (t9 c_x))))
  refine lv_ior hx hb dX2_likeOnes_37 ?_
  refine lv_istore_n (lv' := [(3, .int ((((((0 : Int32) ||| (if (fX2_order T (5 : Int32) (0 : Int32)) = 0 then (1 : Int32) else (0 : Int32))) ||| (if (fX2_order T (5 : Int32) (1 : Int32)) = 0 then (1 : Int32) else (0 : Int32))) ||| (if (fX2_order T (5 : Int32) (2 : Int32)) = 0 then (1 : Int32) else (0 : Int32))) ||| (if (fX2_order T (5 : Int32) (3 : Int32)) = 0 then (1 : Int32) else (0 : Int32))) ||| (if (fX2_order T (5 : Int32) (4 : Int32)) = 0 then (1 : Int32) else (0 : Int32)))), (4, .int (4 : Int32)), (2, .int (5 : Int32)), (1, .int (((((0 : Int32) + (if ((0 : Int32) ||| (if (fX2_order T (1 : Int32) (0 : Int32)) = 0 then (1 : Int32) else (0 : Int32))) = 0 then (0 : Int32) else (1 : Int32))) + (if (((0 : Int32) ||| (if (fX2_order T (2 : Int32) (0 : Int32)) = 0 then (1 : Int32) else (0 : Int32))) ||| (if (fX2_order T (2 : Int32) (1 : Int32)) = 0 then (1 : Int32) else (0 : Int32))) = 0 then (0 : Int32) else (1 : Int32))) + (if ((((0 : Int32) ||| (if (fX2_order T (3 : Int32) (0 : Int32)) = 0 then (1 : Int32) else (0 : Int32))) ||| (if (fX2_order T (3 : Int32) (1 : Int32)) = 0 then (1 : Int32) else (0 : Int32))) ||| (if (fX2_order T (3 : Int32) (2 : Int32)) = 0 then (1 : Int32) else (0 : Int32))) = 0 then (0 : Int32) else (1 : Int32))) + (if (((((0 : Int32) ||| (if (fX2_order T (4 : Int32) (0 : Int32)) = 0 then (1 : Int32) else (0 : Int32))) ||| (if (fX2_order T (4 : Int32) (1 : Int32)) = 0 then (1 : Int32) else (0 : Int32))) ||| (if (fX2_order T (4 : Int32) (2 : Int32)) = 0 then (1 : Int32) else (0 : Int32))) ||| (if (fX2_order T (4 : Int32) (3 : Int32)) = 0 then (1 : Int32) else (0 : Int32))) = 0 then (0 : Int32) else (1 : Int32)))), (0, .ref (b 0))]) hx hb dX2_likeOnes_38 rfl hl (Nat.le_of_ble_eq_true rfl) rfl (fun ls hl => ?_)
  refine lv_iinc (v := (5 : Int32)) (lv' := [(4, .int (5 : Int32)), (3, .int ((((((0 : Int32) ||| (if (fX2_order T (5 : Int32) (0 : Int32)) = 0 then (1 : Int32) else (0 : Int32))) ||| (if (fX2_order T (5 : Int32) (1 : Int32)) = 0 then (1 : Int32) else (0 : Int32))) ||| (if (fX2_order T (5 : Int32) (2 : Int32)) = 0 then (1 : Int32) else (0 : Int32))) ||| (if (fX2_order T (5 : Int32) (3 : Int32)) = 0 then (1 : Int32) else (0 : Int32))) ||| (if (fX2_order T (5 : Int32) (4 : Int32)) = 0 then (1 : Int32) else (0 : Int32)))), (2, .int (5 : Int32)), (1, .int (((((0 : Int32) + (if ((0 : Int32) ||| (if (fX2_order T (1 : Int32) (0 : Int32)) = 0 then (1 : Int32) else (0 : Int32))) = 0 then (0 : Int32) else (1 : Int32))) + (if (((0 : Int32) ||| (if (fX2_order T (2 : Int32) (0 : Int32)) = 0 then (1 : Int32) else (0 : Int32))) ||| (if (fX2_order T (2 : Int32) (1 : Int32)) = 0 then (1 : Int32) else (0 : Int32))) = 0 then (0 : Int32) else (1 : Int32))) + (if ((((0 : Int32) ||| (if (fX2_order T (3 : Int32) (0 : Int32)) = 0 then (1 : Int32) else (0 : Int32))) ||| (if (fX2_order T (3 : Int32) (1 : Int32)) = 0 then (1 : Int32) else (0 : Int32))) ||| (if (fX2_order T (3 : Int32) (2 : Int32)) = 0 then (1 : Int32) else (0 : Int32))) = 0 then (0 : Int32) else (1 : Int32))) + (if (((((0 : Int32) ||| (if (fX2_order T (4 : Int32) (0 : Int32)) = 0 then (1 : Int32) else (0 : Int32))) ||| (if (fX2_order T (4 : Int32) (1 : Int32)) = 0 then (1 : Int32) else (0 : Int32))) ||| (if (fX2_order T (4 : Int32) (2 : Int32)) = 0 then (1 : Int32) else (0 : Int32))) ||| (if (fX2_order T (4 : Int32) (3 : Int32)) = 0 then (1 : Int32) else (0 : Int32))) = 0 then (0 : Int32) else (1 : Int32)))), (0, .ref (b 0))]) hx hb dX2_likeOnes_39 hl (k := 1) rfl (by first | rfl | decide) (Nat.le_of_ble_eq_true rfl) rfl (fun ls hl => ?_)
  refine lv_goto (tgt := 15) hx hb dX2_likeOnes_42 (by decide) ?_
  refine lv_iload hx hb dX2_likeOnes_15 (lv_at hl 0 rfl) ?_
  refine lv_iload_n hx hb dX2_likeOnes_17 rfl (lv_at hl 2 rfl) ?_
  refine lv_icmp_ge (tgt := 45) hx hb dX2_likeOnes_18 (by decide) (fun _ => ?_) (fun c_x => absurd (show (5 : Int32) ≤ (5 : Int32) from by decide) c_x)
  refine lv_iload_n hx hb dX2_likeOnes_45 rfl (lv_at hl 3 rfl) ?_
  refine lv_iload_n hx hb dX2_likeOnes_46 rfl (lv_at hl 1 rfl) ?_
  refine k_dia (b := ((((((0 : Int32) ||| (if (fX2_order T (5 : Int32) (0 : Int32)) = 0 then (1 : Int32) else (0 : Int32))) ||| (if (fX2_order T (5 : Int32) (1 : Int32)) = 0 then (1 : Int32) else (0 : Int32))) ||| (if (fX2_order T (5 : Int32) (2 : Int32)) = 0 then (1 : Int32) else (0 : Int32))) ||| (if (fX2_order T (5 : Int32) (3 : Int32)) = 0 then (1 : Int32) else (0 : Int32))) ||| (if (fX2_order T (5 : Int32) (4 : Int32)) = 0 then (1 : Int32) else (0 : Int32))) = 0) (x := (0 : Int32)) (y := (1 : Int32)) (Wg := fun z9 => W _ _ _ _ _ _ _ _ _ _ _ _ _ _ _ (F0 m 55 ls (.int z9 :: _))) ?_ (fun t9 f9 => lv_if_eq (tgt := 54) hx hb dX2_likeOnes_47 (by decide) (fun c_x => lv_iconst (v := (0 : Int32)) hx hb dX2_likeOnes_54 qi_0 (t9 c_x)) (fun c_x => lv_iconst (v := (1 : Int32)) hx hb dX2_likeOnes_50 qi_1 (lv_goto (tgt := 55) hx hb dX2_likeOnes_51 (by decide) (f9 c_x))))
  refine lv_iadd hx hb dX2_likeOnes_55 ?_
  refine lv_istore_n (lv' := [(1, .int ((((((0 : Int32) + (if ((0 : Int32) ||| (if (fX2_order T (1 : Int32) (0 : Int32)) = 0 then (1 : Int32) else (0 : Int32))) = 0 then (0 : Int32) else (1 : Int32))) + (if (((0 : Int32) ||| (if (fX2_order T (2 : Int32) (0 : Int32)) = 0 then (1 : Int32) else (0 : Int32))) ||| (if (fX2_order T (2 : Int32) (1 : Int32)) = 0 then (1 : Int32) else (0 : Int32))) = 0 then (0 : Int32) else (1 : Int32))) + (if ((((0 : Int32) ||| (if (fX2_order T (3 : Int32) (0 : Int32)) = 0 then (1 : Int32) else (0 : Int32))) ||| (if (fX2_order T (3 : Int32) (1 : Int32)) = 0 then (1 : Int32) else (0 : Int32))) ||| (if (fX2_order T (3 : Int32) (2 : Int32)) = 0 then (1 : Int32) else (0 : Int32))) = 0 then (0 : Int32) else (1 : Int32))) + (if (((((0 : Int32) ||| (if (fX2_order T (4 : Int32) (0 : Int32)) = 0 then (1 : Int32) else (0 : Int32))) ||| (if (fX2_order T (4 : Int32) (1 : Int32)) = 0 then (1 : Int32) else (0 : Int32))) ||| (if (fX2_order T (4 : Int32) (2 : Int32)) = 0 then (1 : Int32) else (0 : Int32))) ||| (if (fX2_order T (4 : Int32) (3 : Int32)) = 0 then (1 : Int32) else (0 : Int32))) = 0 then (0 : Int32) else (1 : Int32))) + (if ((((((0 : Int32) ||| (if (fX2_order T (5 : Int32) (0 : Int32)) = 0 then (1 : Int32) else (0 : Int32))) ||| (if (fX2_order T (5 : Int32) (1 : Int32)) = 0 then (1 : Int32) else (0 : Int32))) ||| (if (fX2_order T (5 : Int32) (2 : Int32)) = 0 then (1 : Int32) else (0 : Int32))) ||| (if (fX2_order T (5 : Int32) (3 : Int32)) = 0 then (1 : Int32) else (0 : Int32))) ||| (if (fX2_order T (5 : Int32) (4 : Int32)) = 0 then (1 : Int32) else (0 : Int32))) = 0 then (0 : Int32) else (1 : Int32)))), (4, .int (5 : Int32)), (3, .int ((((((0 : Int32) ||| (if (fX2_order T (5 : Int32) (0 : Int32)) = 0 then (1 : Int32) else (0 : Int32))) ||| (if (fX2_order T (5 : Int32) (1 : Int32)) = 0 then (1 : Int32) else (0 : Int32))) ||| (if (fX2_order T (5 : Int32) (2 : Int32)) = 0 then (1 : Int32) else (0 : Int32))) ||| (if (fX2_order T (5 : Int32) (3 : Int32)) = 0 then (1 : Int32) else (0 : Int32))) ||| (if (fX2_order T (5 : Int32) (4 : Int32)) = 0 then (1 : Int32) else (0 : Int32)))), (2, .int (5 : Int32)), (0, .ref (b 0))]) hx hb dX2_likeOnes_56 rfl hl (Nat.le_of_ble_eq_true rfl) rfl (fun ls hl => ?_)
  refine lv_iinc (v := (6 : Int32)) (lv' := [(2, .int (6 : Int32)), (1, .int ((((((0 : Int32) + (if ((0 : Int32) ||| (if (fX2_order T (1 : Int32) (0 : Int32)) = 0 then (1 : Int32) else (0 : Int32))) = 0 then (0 : Int32) else (1 : Int32))) + (if (((0 : Int32) ||| (if (fX2_order T (2 : Int32) (0 : Int32)) = 0 then (1 : Int32) else (0 : Int32))) ||| (if (fX2_order T (2 : Int32) (1 : Int32)) = 0 then (1 : Int32) else (0 : Int32))) = 0 then (0 : Int32) else (1 : Int32))) + (if ((((0 : Int32) ||| (if (fX2_order T (3 : Int32) (0 : Int32)) = 0 then (1 : Int32) else (0 : Int32))) ||| (if (fX2_order T (3 : Int32) (1 : Int32)) = 0 then (1 : Int32) else (0 : Int32))) ||| (if (fX2_order T (3 : Int32) (2 : Int32)) = 0 then (1 : Int32) else (0 : Int32))) = 0 then (0 : Int32) else (1 : Int32))) + (if (((((0 : Int32) ||| (if (fX2_order T (4 : Int32) (0 : Int32)) = 0 then (1 : Int32) else (0 : Int32))) ||| (if (fX2_order T (4 : Int32) (1 : Int32)) = 0 then (1 : Int32) else (0 : Int32))) ||| (if (fX2_order T (4 : Int32) (2 : Int32)) = 0 then (1 : Int32) else (0 : Int32))) ||| (if (fX2_order T (4 : Int32) (3 : Int32)) = 0 then (1 : Int32) else (0 : Int32))) = 0 then (0 : Int32) else (1 : Int32))) + (if ((((((0 : Int32) ||| (if (fX2_order T (5 : Int32) (0 : Int32)) = 0 then (1 : Int32) else (0 : Int32))) ||| (if (fX2_order T (5 : Int32) (1 : Int32)) = 0 then (1 : Int32) else (0 : Int32))) ||| (if (fX2_order T (5 : Int32) (2 : Int32)) = 0 then (1 : Int32) else (0 : Int32))) ||| (if (fX2_order T (5 : Int32) (3 : Int32)) = 0 then (1 : Int32) else (0 : Int32))) ||| (if (fX2_order T (5 : Int32) (4 : Int32)) = 0 then (1 : Int32) else (0 : Int32))) = 0 then (0 : Int32) else (1 : Int32)))), (4, .int (5 : Int32)), (3, .int ((((((0 : Int32) ||| (if (fX2_order T (5 : Int32) (0 : Int32)) = 0 then (1 : Int32) else (0 : Int32))) ||| (if (fX2_order T (5 : Int32) (1 : Int32)) = 0 then (1 : Int32) else (0 : Int32))) ||| (if (fX2_order T (5 : Int32) (2 : Int32)) = 0 then (1 : Int32) else (0 : Int32))) ||| (if (fX2_order T (5 : Int32) (3 : Int32)) = 0 then (1 : Int32) else (0 : Int32))) ||| (if (fX2_order T (5 : Int32) (4 : Int32)) = 0 then (1 : Int32) else (0 : Int32)))), (0, .ref (b 0))]) hx hb dX2_likeOnes_57 hl (k := 3) rfl (by first | rfl | decide) (Nat.le_of_ble_eq_true rfl) rfl (fun ls hl => ?_)
  refine lv_goto (tgt := 4) hx hb dX2_likeOnes_60 (by decide) ?_
  refine lv_iload_n hx hb dX2_likeOnes_4 rfl (lv_at hl 0 rfl) ?_
  refine lv_bipush (v := (6 : Int32)) hx hb dX2_likeOnes_5 qb_6 ?_
  refine lv_icmp_ge (tgt := 63) hx hb dX2_likeOnes_7 (by decide) (fun _ => ?_) (fun c_x => absurd (show (6 : Int32) ≤ (6 : Int32) from by decide) c_x)
  refine lv_iload_n hx hb dX2_likeOnes_63 rfl (lv_at hl 1 rfl) ?_
  exact re_i hx hb hr hk dX2_likeOnes_64 (ei rfl)

set_option maxRecDepth 100000 in
set_option maxHeartbeats 4000000 in
theorem c_X2_outer (l : Launch) (G : GT) (b : Nat → Nat) (T : SM) (p0 : Int32) (hT : MO T) : RO l G yX2_outer cX2_outer 4 (some .int) 7 [.ref (b 0), .int p0] (wM G b T) (some (.int (fX2_outer T p0))) := by
  refine RO.ofW (own := RX2) rfl (plainFor_of_name pnN_RX2) (Nat.le_of_ble_eq_true rfl) ?_
  intro p e s m below meth c C hr hk hE hP ls hl
  have hx := C.1
  have hb := C.2.1
  have hown := C.2.2.2.1
  have hw := C.2.2.2.2
  have hl : lv_has ls 4 [(0, .ref (b 0)), (1, .int p0)] := hl
  refine lv_iconst (v := (0 : Int32)) hx hb dX2_outer_0 qi_0 ?_
  refine lv_istore_n (lv' := [(2, .int (0 : Int32)), (0, .ref (b 0)), (1, .int p0)]) hx hb dX2_outer_1 rfl hl (Nat.le_of_ble_eq_true rfl) rfl (fun ls hl => ?_)
  refine lv_iconst (v := (1 : Int32)) hx hb dX2_outer_2 qi_1 ?_
  refine lv_istore_n (lv' := [(3, .int (1 : Int32)), (2, .int (0 : Int32)), (0, .ref (b 0)), (1, .int p0)]) hx hb dX2_outer_3 rfl hl (Nat.le_of_ble_eq_true rfl) rfl (fun ls hl => ?_)
  refine lv_iload_n hx hb dX2_outer_4 rfl (lv_at hl 0 rfl) ?_
  refine lv_bipush (v := (6 : Int32)) hx hb dX2_outer_5 qb_6 ?_
  refine lv_icmp_ge (tgt := 28) hx hb dX2_outer_7 (by decide) (fun c_x => absurd c_x (by decide)) (fun _ => ?_)
  refine lv_aload_n hx hb dX2_outer_10 rfl (lv_at hl 2 rfl) ?_
  refine lv_iload_n hx hb dX2_outer_11 rfl (lv_at hl 0 rfl) ?_
  refine lv_iload_n hx hb dX2_outer_12 rfl (lv_at hl 1 rfl) ?_
  refine rcVi (as := [.int (1 : Int32), .int (0 : Int32)]) (rest := []) (cl := RX2) C (c_X2_order l G b T (1 : Int32) (0 : Int32) (vp_in_lit 1) (vp_in_lit 0) hT) F_X2_order rfl bw1561 bw1563 bw48 hE hP (rv4 hE.K hP (q0 := 0) rfl) hl.1 dX2_outer_13 ⟨Nat.le_of_ble_eq_true rfl, Nat.le_of_ble_eq_true rfl⟩ rfl (Nat.le_of_ble_eq_true rfl) ⟨Nat.zero_le _, Nat.zero_le _⟩ ?_
  refine lv_iload_n hx hb dX2_outer_16 rfl (lv_at hl 3 rfl) ?_
  refine lv_icmp_ne (tgt := 22) hx hb dX2_outer_17 (by decide) (fun c_1 => ?_) (fun c_1 => ?_)
  · refine lv_iinc (v := (2 : Int32)) (lv' := [(3, .int (2 : Int32)), (2, .int (0 : Int32)), (0, .ref (b 0)), (1, .int p0)]) hx hb dX2_outer_22 hl (k := 0) rfl (by first | rfl | decide) (Nat.le_of_ble_eq_true rfl) rfl (fun ls hl => ?_)
    refine lv_goto (tgt := 4) hx hb dX2_outer_25 (by decide) ?_
    refine lv_iload_n hx hb dX2_outer_4 rfl (lv_at hl 0 rfl) ?_
    refine lv_bipush (v := (6 : Int32)) hx hb dX2_outer_5 qb_6 ?_
    refine lv_icmp_ge (tgt := 28) hx hb dX2_outer_7 (by decide) (fun c_x => absurd c_x (by decide)) (fun _ => ?_)
    refine lv_aload_n hx hb dX2_outer_10 rfl (lv_at hl 2 rfl) ?_
    refine lv_iload_n hx hb dX2_outer_11 rfl (lv_at hl 0 rfl) ?_
    refine lv_iload_n hx hb dX2_outer_12 rfl (lv_at hl 1 rfl) ?_
    refine rcVi (as := [.int (2 : Int32), .int (0 : Int32)]) (rest := []) (cl := RX2) C (c_X2_order l G b T (2 : Int32) (0 : Int32) (vp_in_lit 2) (vp_in_lit 0) hT) F_X2_order rfl bw1561 bw1563 bw48 hE hP (rv4 hE.K hP (q0 := 0) rfl) hl.1 dX2_outer_13 ⟨Nat.le_of_ble_eq_true rfl, Nat.le_of_ble_eq_true rfl⟩ rfl (Nat.le_of_ble_eq_true rfl) ⟨Nat.zero_le _, Nat.zero_le _⟩ ?_
    refine lv_iload_n hx hb dX2_outer_16 rfl (lv_at hl 3 rfl) ?_
    refine lv_icmp_ne (tgt := 22) hx hb dX2_outer_17 (by decide) (fun c_2 => ?_) (fun c_2 => ?_)
    · refine lv_iinc (v := (3 : Int32)) (lv' := [(3, .int (3 : Int32)), (2, .int (0 : Int32)), (0, .ref (b 0)), (1, .int p0)]) hx hb dX2_outer_22 hl (k := 0) rfl (by first | rfl | decide) (Nat.le_of_ble_eq_true rfl) rfl (fun ls hl => ?_)
      refine lv_goto (tgt := 4) hx hb dX2_outer_25 (by decide) ?_
      refine lv_iload_n hx hb dX2_outer_4 rfl (lv_at hl 0 rfl) ?_
      refine lv_bipush (v := (6 : Int32)) hx hb dX2_outer_5 qb_6 ?_
      refine lv_icmp_ge (tgt := 28) hx hb dX2_outer_7 (by decide) (fun c_x => absurd c_x (by decide)) (fun _ => ?_)
      refine lv_aload_n hx hb dX2_outer_10 rfl (lv_at hl 2 rfl) ?_
      refine lv_iload_n hx hb dX2_outer_11 rfl (lv_at hl 0 rfl) ?_
      refine lv_iload_n hx hb dX2_outer_12 rfl (lv_at hl 1 rfl) ?_
      refine rcVi (as := [.int (3 : Int32), .int (0 : Int32)]) (rest := []) (cl := RX2) C (c_X2_order l G b T (3 : Int32) (0 : Int32) (vp_in_lit 3) (vp_in_lit 0) hT) F_X2_order rfl bw1561 bw1563 bw48 hE hP (rv4 hE.K hP (q0 := 0) rfl) hl.1 dX2_outer_13 ⟨Nat.le_of_ble_eq_true rfl, Nat.le_of_ble_eq_true rfl⟩ rfl (Nat.le_of_ble_eq_true rfl) ⟨Nat.zero_le _, Nat.zero_le _⟩ ?_
      refine lv_iload_n hx hb dX2_outer_16 rfl (lv_at hl 3 rfl) ?_
      refine lv_icmp_ne (tgt := 22) hx hb dX2_outer_17 (by decide) (fun c_3 => ?_) (fun c_3 => ?_)
      · refine lv_iinc (v := (4 : Int32)) (lv' := [(3, .int (4 : Int32)), (2, .int (0 : Int32)), (0, .ref (b 0)), (1, .int p0)]) hx hb dX2_outer_22 hl (k := 0) rfl (by first | rfl | decide) (Nat.le_of_ble_eq_true rfl) rfl (fun ls hl => ?_)
        refine lv_goto (tgt := 4) hx hb dX2_outer_25 (by decide) ?_
        refine lv_iload_n hx hb dX2_outer_4 rfl (lv_at hl 0 rfl) ?_
        refine lv_bipush (v := (6 : Int32)) hx hb dX2_outer_5 qb_6 ?_
        refine lv_icmp_ge (tgt := 28) hx hb dX2_outer_7 (by decide) (fun c_x => absurd c_x (by decide)) (fun _ => ?_)
        refine lv_aload_n hx hb dX2_outer_10 rfl (lv_at hl 2 rfl) ?_
        refine lv_iload_n hx hb dX2_outer_11 rfl (lv_at hl 0 rfl) ?_
        refine lv_iload_n hx hb dX2_outer_12 rfl (lv_at hl 1 rfl) ?_
        refine rcVi (as := [.int (4 : Int32), .int (0 : Int32)]) (rest := []) (cl := RX2) C (c_X2_order l G b T (4 : Int32) (0 : Int32) (vp_in_lit 4) (vp_in_lit 0) hT) F_X2_order rfl bw1561 bw1563 bw48 hE hP (rv4 hE.K hP (q0 := 0) rfl) hl.1 dX2_outer_13 ⟨Nat.le_of_ble_eq_true rfl, Nat.le_of_ble_eq_true rfl⟩ rfl (Nat.le_of_ble_eq_true rfl) ⟨Nat.zero_le _, Nat.zero_le _⟩ ?_
        refine lv_iload_n hx hb dX2_outer_16 rfl (lv_at hl 3 rfl) ?_
        refine lv_icmp_ne (tgt := 22) hx hb dX2_outer_17 (by decide) (fun c_4 => ?_) (fun c_4 => ?_)
        · refine lv_iinc (v := (5 : Int32)) (lv' := [(3, .int (5 : Int32)), (2, .int (0 : Int32)), (0, .ref (b 0)), (1, .int p0)]) hx hb dX2_outer_22 hl (k := 0) rfl (by first | rfl | decide) (Nat.le_of_ble_eq_true rfl) rfl (fun ls hl => ?_)
          refine lv_goto (tgt := 4) hx hb dX2_outer_25 (by decide) ?_
          refine lv_iload_n hx hb dX2_outer_4 rfl (lv_at hl 0 rfl) ?_
          refine lv_bipush (v := (6 : Int32)) hx hb dX2_outer_5 qb_6 ?_
          refine lv_icmp_ge (tgt := 28) hx hb dX2_outer_7 (by decide) (fun c_x => absurd c_x (by decide)) (fun _ => ?_)
          refine lv_aload_n hx hb dX2_outer_10 rfl (lv_at hl 2 rfl) ?_
          refine lv_iload_n hx hb dX2_outer_11 rfl (lv_at hl 0 rfl) ?_
          refine lv_iload_n hx hb dX2_outer_12 rfl (lv_at hl 1 rfl) ?_
          refine rcVi (as := [.int (5 : Int32), .int (0 : Int32)]) (rest := []) (cl := RX2) C (c_X2_order l G b T (5 : Int32) (0 : Int32) (vp_in_lit 5) (vp_in_lit 0) hT) F_X2_order rfl bw1561 bw1563 bw48 hE hP (rv4 hE.K hP (q0 := 0) rfl) hl.1 dX2_outer_13 ⟨Nat.le_of_ble_eq_true rfl, Nat.le_of_ble_eq_true rfl⟩ rfl (Nat.le_of_ble_eq_true rfl) ⟨Nat.zero_le _, Nat.zero_le _⟩ ?_
          refine lv_iload_n hx hb dX2_outer_16 rfl (lv_at hl 3 rfl) ?_
          refine lv_icmp_ne (tgt := 22) hx hb dX2_outer_17 (by decide) (fun c_5 => ?_) (fun c_5 => ?_)
          · refine lv_iinc (v := (6 : Int32)) (lv' := [(3, .int (6 : Int32)), (2, .int (0 : Int32)), (0, .ref (b 0)), (1, .int p0)]) hx hb dX2_outer_22 hl (k := 0) rfl (by first | rfl | decide) (Nat.le_of_ble_eq_true rfl) rfl (fun ls hl => ?_)
            refine lv_goto (tgt := 4) hx hb dX2_outer_25 (by decide) ?_
            refine lv_iload_n hx hb dX2_outer_4 rfl (lv_at hl 0 rfl) ?_
            refine lv_bipush (v := (6 : Int32)) hx hb dX2_outer_5 qb_6 ?_
            refine lv_icmp_ge (tgt := 28) hx hb dX2_outer_7 (by decide) (fun _ => ?_) (fun c_x => absurd (show (6 : Int32) ≤ (6 : Int32) from by decide) c_x)
            refine lv_iload_n hx hb dX2_outer_28 rfl (lv_at hl 1 rfl) ?_
            exact re_i hx hb hr hk dX2_outer_29 (ei (Eq.trans (if_neg c_1) (Eq.trans (if_neg c_2) (Eq.trans (if_neg c_3) (Eq.trans (if_neg c_4) (if_neg c_5))))))
          · refine lv_iload_n hx hb dX2_outer_20 rfl (lv_at hl 0 rfl) ?_
            refine lv_istore_n (lv' := [(2, .int (5 : Int32)), (3, .int (5 : Int32)), (0, .ref (b 0)), (1, .int p0)]) hx hb dX2_outer_21 rfl hl (Nat.le_of_ble_eq_true rfl) rfl (fun ls hl => ?_)
            refine lv_iinc (v := (6 : Int32)) (lv' := [(3, .int (6 : Int32)), (2, .int (5 : Int32)), (0, .ref (b 0)), (1, .int p0)]) hx hb dX2_outer_22 hl (k := 1) rfl (by first | rfl | decide) (Nat.le_of_ble_eq_true rfl) rfl (fun ls hl => ?_)
            refine lv_goto (tgt := 4) hx hb dX2_outer_25 (by decide) ?_
            refine lv_iload_n hx hb dX2_outer_4 rfl (lv_at hl 0 rfl) ?_
            refine lv_bipush (v := (6 : Int32)) hx hb dX2_outer_5 qb_6 ?_
            refine lv_icmp_ge (tgt := 28) hx hb dX2_outer_7 (by decide) (fun _ => ?_) (fun c_x => absurd (show (6 : Int32) ≤ (6 : Int32) from by decide) c_x)
            refine lv_iload_n hx hb dX2_outer_28 rfl (lv_at hl 1 rfl) ?_
            exact re_i hx hb hr hk dX2_outer_29 (ei (Eq.trans (if_neg c_1) (Eq.trans (if_neg c_2) (Eq.trans (if_neg c_3) (Eq.trans (if_neg c_4) (if_pos c_5))))))
        · refine lv_iload_n hx hb dX2_outer_20 rfl (lv_at hl 0 rfl) ?_
          refine lv_istore_n (lv' := [(2, .int (4 : Int32)), (3, .int (4 : Int32)), (0, .ref (b 0)), (1, .int p0)]) hx hb dX2_outer_21 rfl hl (Nat.le_of_ble_eq_true rfl) rfl (fun ls hl => ?_)
          refine lv_iinc (v := (5 : Int32)) (lv' := [(3, .int (5 : Int32)), (2, .int (4 : Int32)), (0, .ref (b 0)), (1, .int p0)]) hx hb dX2_outer_22 hl (k := 1) rfl (by first | rfl | decide) (Nat.le_of_ble_eq_true rfl) rfl (fun ls hl => ?_)
          refine lv_goto (tgt := 4) hx hb dX2_outer_25 (by decide) ?_
          refine lv_iload_n hx hb dX2_outer_4 rfl (lv_at hl 0 rfl) ?_
          refine lv_bipush (v := (6 : Int32)) hx hb dX2_outer_5 qb_6 ?_
          refine lv_icmp_ge (tgt := 28) hx hb dX2_outer_7 (by decide) (fun c_x => absurd c_x (by decide)) (fun _ => ?_)
          refine lv_aload_n hx hb dX2_outer_10 rfl (lv_at hl 2 rfl) ?_
          refine lv_iload_n hx hb dX2_outer_11 rfl (lv_at hl 0 rfl) ?_
          refine lv_iload_n hx hb dX2_outer_12 rfl (lv_at hl 1 rfl) ?_
          refine rcVi (as := [.int (5 : Int32), .int (4 : Int32)]) (rest := []) (cl := RX2) C (c_X2_order l G b T (5 : Int32) (4 : Int32) (vp_in_lit 5) (vp_in_lit 4) hT) F_X2_order rfl bw1561 bw1563 bw48 hE hP (rv4 hE.K hP (q0 := 0) rfl) hl.1 dX2_outer_13 ⟨Nat.le_of_ble_eq_true rfl, Nat.le_of_ble_eq_true rfl⟩ rfl (Nat.le_of_ble_eq_true rfl) ⟨Nat.zero_le _, Nat.zero_le _⟩ ?_
          refine lv_iload_n hx hb dX2_outer_16 rfl (lv_at hl 3 rfl) ?_
          refine lv_icmp_ne (tgt := 22) hx hb dX2_outer_17 (by decide) (fun c_6 => ?_) (fun c_6 => ?_)
          · refine lv_iinc (v := (6 : Int32)) (lv' := [(3, .int (6 : Int32)), (2, .int (4 : Int32)), (0, .ref (b 0)), (1, .int p0)]) hx hb dX2_outer_22 hl (k := 0) rfl (by first | rfl | decide) (Nat.le_of_ble_eq_true rfl) rfl (fun ls hl => ?_)
            refine lv_goto (tgt := 4) hx hb dX2_outer_25 (by decide) ?_
            refine lv_iload_n hx hb dX2_outer_4 rfl (lv_at hl 0 rfl) ?_
            refine lv_bipush (v := (6 : Int32)) hx hb dX2_outer_5 qb_6 ?_
            refine lv_icmp_ge (tgt := 28) hx hb dX2_outer_7 (by decide) (fun _ => ?_) (fun c_x => absurd (show (6 : Int32) ≤ (6 : Int32) from by decide) c_x)
            refine lv_iload_n hx hb dX2_outer_28 rfl (lv_at hl 1 rfl) ?_
            exact re_i hx hb hr hk dX2_outer_29 (ei (Eq.trans (if_neg c_1) (Eq.trans (if_neg c_2) (Eq.trans (if_neg c_3) (Eq.trans (if_pos c_4) (if_neg c_6))))))
          · refine lv_iload_n hx hb dX2_outer_20 rfl (lv_at hl 0 rfl) ?_
            refine lv_istore_n (lv' := [(2, .int (5 : Int32)), (3, .int (5 : Int32)), (0, .ref (b 0)), (1, .int p0)]) hx hb dX2_outer_21 rfl hl (Nat.le_of_ble_eq_true rfl) rfl (fun ls hl => ?_)
            refine lv_iinc (v := (6 : Int32)) (lv' := [(3, .int (6 : Int32)), (2, .int (5 : Int32)), (0, .ref (b 0)), (1, .int p0)]) hx hb dX2_outer_22 hl (k := 1) rfl (by first | rfl | decide) (Nat.le_of_ble_eq_true rfl) rfl (fun ls hl => ?_)
            refine lv_goto (tgt := 4) hx hb dX2_outer_25 (by decide) ?_
            refine lv_iload_n hx hb dX2_outer_4 rfl (lv_at hl 0 rfl) ?_
            refine lv_bipush (v := (6 : Int32)) hx hb dX2_outer_5 qb_6 ?_
            refine lv_icmp_ge (tgt := 28) hx hb dX2_outer_7 (by decide) (fun _ => ?_) (fun c_x => absurd (show (6 : Int32) ≤ (6 : Int32) from by decide) c_x)
            refine lv_iload_n hx hb dX2_outer_28 rfl (lv_at hl 1 rfl) ?_
            exact re_i hx hb hr hk dX2_outer_29 (ei (Eq.trans (if_neg c_1) (Eq.trans (if_neg c_2) (Eq.trans (if_neg c_3) (Eq.trans (if_pos c_4) (if_pos c_6))))))
      · refine lv_iload_n hx hb dX2_outer_20 rfl (lv_at hl 0 rfl) ?_
        refine lv_istore_n (lv' := [(2, .int (3 : Int32)), (3, .int (3 : Int32)), (0, .ref (b 0)), (1, .int p0)]) hx hb dX2_outer_21 rfl hl (Nat.le_of_ble_eq_true rfl) rfl (fun ls hl => ?_)
        refine lv_iinc (v := (4 : Int32)) (lv' := [(3, .int (4 : Int32)), (2, .int (3 : Int32)), (0, .ref (b 0)), (1, .int p0)]) hx hb dX2_outer_22 hl (k := 1) rfl (by first | rfl | decide) (Nat.le_of_ble_eq_true rfl) rfl (fun ls hl => ?_)
        refine lv_goto (tgt := 4) hx hb dX2_outer_25 (by decide) ?_
        refine lv_iload_n hx hb dX2_outer_4 rfl (lv_at hl 0 rfl) ?_
        refine lv_bipush (v := (6 : Int32)) hx hb dX2_outer_5 qb_6 ?_
        refine lv_icmp_ge (tgt := 28) hx hb dX2_outer_7 (by decide) (fun c_x => absurd c_x (by decide)) (fun _ => ?_)
        refine lv_aload_n hx hb dX2_outer_10 rfl (lv_at hl 2 rfl) ?_
        refine lv_iload_n hx hb dX2_outer_11 rfl (lv_at hl 0 rfl) ?_
        refine lv_iload_n hx hb dX2_outer_12 rfl (lv_at hl 1 rfl) ?_
        refine rcVi (as := [.int (4 : Int32), .int (3 : Int32)]) (rest := []) (cl := RX2) C (c_X2_order l G b T (4 : Int32) (3 : Int32) (vp_in_lit 4) (vp_in_lit 3) hT) F_X2_order rfl bw1561 bw1563 bw48 hE hP (rv4 hE.K hP (q0 := 0) rfl) hl.1 dX2_outer_13 ⟨Nat.le_of_ble_eq_true rfl, Nat.le_of_ble_eq_true rfl⟩ rfl (Nat.le_of_ble_eq_true rfl) ⟨Nat.zero_le _, Nat.zero_le _⟩ ?_
        refine lv_iload_n hx hb dX2_outer_16 rfl (lv_at hl 3 rfl) ?_
        refine lv_icmp_ne (tgt := 22) hx hb dX2_outer_17 (by decide) (fun c_7 => ?_) (fun c_7 => ?_)
        · refine lv_iinc (v := (5 : Int32)) (lv' := [(3, .int (5 : Int32)), (2, .int (3 : Int32)), (0, .ref (b 0)), (1, .int p0)]) hx hb dX2_outer_22 hl (k := 0) rfl (by first | rfl | decide) (Nat.le_of_ble_eq_true rfl) rfl (fun ls hl => ?_)
          refine lv_goto (tgt := 4) hx hb dX2_outer_25 (by decide) ?_
          refine lv_iload_n hx hb dX2_outer_4 rfl (lv_at hl 0 rfl) ?_
          refine lv_bipush (v := (6 : Int32)) hx hb dX2_outer_5 qb_6 ?_
          refine lv_icmp_ge (tgt := 28) hx hb dX2_outer_7 (by decide) (fun c_x => absurd c_x (by decide)) (fun _ => ?_)
          refine lv_aload_n hx hb dX2_outer_10 rfl (lv_at hl 2 rfl) ?_
          refine lv_iload_n hx hb dX2_outer_11 rfl (lv_at hl 0 rfl) ?_
          refine lv_iload_n hx hb dX2_outer_12 rfl (lv_at hl 1 rfl) ?_
          refine rcVi (as := [.int (5 : Int32), .int (3 : Int32)]) (rest := []) (cl := RX2) C (c_X2_order l G b T (5 : Int32) (3 : Int32) (vp_in_lit 5) (vp_in_lit 3) hT) F_X2_order rfl bw1561 bw1563 bw48 hE hP (rv4 hE.K hP (q0 := 0) rfl) hl.1 dX2_outer_13 ⟨Nat.le_of_ble_eq_true rfl, Nat.le_of_ble_eq_true rfl⟩ rfl (Nat.le_of_ble_eq_true rfl) ⟨Nat.zero_le _, Nat.zero_le _⟩ ?_
          refine lv_iload_n hx hb dX2_outer_16 rfl (lv_at hl 3 rfl) ?_
          refine lv_icmp_ne (tgt := 22) hx hb dX2_outer_17 (by decide) (fun c_8 => ?_) (fun c_8 => ?_)
          · refine lv_iinc (v := (6 : Int32)) (lv' := [(3, .int (6 : Int32)), (2, .int (3 : Int32)), (0, .ref (b 0)), (1, .int p0)]) hx hb dX2_outer_22 hl (k := 0) rfl (by first | rfl | decide) (Nat.le_of_ble_eq_true rfl) rfl (fun ls hl => ?_)
            refine lv_goto (tgt := 4) hx hb dX2_outer_25 (by decide) ?_
            refine lv_iload_n hx hb dX2_outer_4 rfl (lv_at hl 0 rfl) ?_
            refine lv_bipush (v := (6 : Int32)) hx hb dX2_outer_5 qb_6 ?_
            refine lv_icmp_ge (tgt := 28) hx hb dX2_outer_7 (by decide) (fun _ => ?_) (fun c_x => absurd (show (6 : Int32) ≤ (6 : Int32) from by decide) c_x)
            refine lv_iload_n hx hb dX2_outer_28 rfl (lv_at hl 1 rfl) ?_
            exact re_i hx hb hr hk dX2_outer_29 (ei (Eq.trans (if_neg c_1) (Eq.trans (if_neg c_2) (Eq.trans (if_pos c_3) (Eq.trans (if_neg c_7) (if_neg c_8))))))
          · refine lv_iload_n hx hb dX2_outer_20 rfl (lv_at hl 0 rfl) ?_
            refine lv_istore_n (lv' := [(2, .int (5 : Int32)), (3, .int (5 : Int32)), (0, .ref (b 0)), (1, .int p0)]) hx hb dX2_outer_21 rfl hl (Nat.le_of_ble_eq_true rfl) rfl (fun ls hl => ?_)
            refine lv_iinc (v := (6 : Int32)) (lv' := [(3, .int (6 : Int32)), (2, .int (5 : Int32)), (0, .ref (b 0)), (1, .int p0)]) hx hb dX2_outer_22 hl (k := 1) rfl (by first | rfl | decide) (Nat.le_of_ble_eq_true rfl) rfl (fun ls hl => ?_)
            refine lv_goto (tgt := 4) hx hb dX2_outer_25 (by decide) ?_
            refine lv_iload_n hx hb dX2_outer_4 rfl (lv_at hl 0 rfl) ?_
            refine lv_bipush (v := (6 : Int32)) hx hb dX2_outer_5 qb_6 ?_
            refine lv_icmp_ge (tgt := 28) hx hb dX2_outer_7 (by decide) (fun _ => ?_) (fun c_x => absurd (show (6 : Int32) ≤ (6 : Int32) from by decide) c_x)
            refine lv_iload_n hx hb dX2_outer_28 rfl (lv_at hl 1 rfl) ?_
            exact re_i hx hb hr hk dX2_outer_29 (ei (Eq.trans (if_neg c_1) (Eq.trans (if_neg c_2) (Eq.trans (if_pos c_3) (Eq.trans (if_neg c_7) (if_pos c_8))))))
        · refine lv_iload_n hx hb dX2_outer_20 rfl (lv_at hl 0 rfl) ?_
          refine lv_istore_n (lv' := [(2, .int (4 : Int32)), (3, .int (4 : Int32)), (0, .ref (b 0)), (1, .int p0)]) hx hb dX2_outer_21 rfl hl (Nat.le_of_ble_eq_true rfl) rfl (fun ls hl => ?_)
          refine lv_iinc (v := (5 : Int32)) (lv' := [(3, .int (5 : Int32)), (2, .int (4 : Int32)), (0, .ref (b 0)), (1, .int p0)]) hx hb dX2_outer_22 hl (k := 1) rfl (by first | rfl | decide) (Nat.le_of_ble_eq_true rfl) rfl (fun ls hl => ?_)
          refine lv_goto (tgt := 4) hx hb dX2_outer_25 (by decide) ?_
          refine lv_iload_n hx hb dX2_outer_4 rfl (lv_at hl 0 rfl) ?_
          refine lv_bipush (v := (6 : Int32)) hx hb dX2_outer_5 qb_6 ?_
          refine lv_icmp_ge (tgt := 28) hx hb dX2_outer_7 (by decide) (fun c_x => absurd c_x (by decide)) (fun _ => ?_)
          refine lv_aload_n hx hb dX2_outer_10 rfl (lv_at hl 2 rfl) ?_
          refine lv_iload_n hx hb dX2_outer_11 rfl (lv_at hl 0 rfl) ?_
          refine lv_iload_n hx hb dX2_outer_12 rfl (lv_at hl 1 rfl) ?_
          refine rcVi (as := [.int (5 : Int32), .int (4 : Int32)]) (rest := []) (cl := RX2) C (c_X2_order l G b T (5 : Int32) (4 : Int32) (vp_in_lit 5) (vp_in_lit 4) hT) F_X2_order rfl bw1561 bw1563 bw48 hE hP (rv4 hE.K hP (q0 := 0) rfl) hl.1 dX2_outer_13 ⟨Nat.le_of_ble_eq_true rfl, Nat.le_of_ble_eq_true rfl⟩ rfl (Nat.le_of_ble_eq_true rfl) ⟨Nat.zero_le _, Nat.zero_le _⟩ ?_
          refine lv_iload_n hx hb dX2_outer_16 rfl (lv_at hl 3 rfl) ?_
          refine lv_icmp_ne (tgt := 22) hx hb dX2_outer_17 (by decide) (fun c_9 => ?_) (fun c_9 => ?_)
          · refine lv_iinc (v := (6 : Int32)) (lv' := [(3, .int (6 : Int32)), (2, .int (4 : Int32)), (0, .ref (b 0)), (1, .int p0)]) hx hb dX2_outer_22 hl (k := 0) rfl (by first | rfl | decide) (Nat.le_of_ble_eq_true rfl) rfl (fun ls hl => ?_)
            refine lv_goto (tgt := 4) hx hb dX2_outer_25 (by decide) ?_
            refine lv_iload_n hx hb dX2_outer_4 rfl (lv_at hl 0 rfl) ?_
            refine lv_bipush (v := (6 : Int32)) hx hb dX2_outer_5 qb_6 ?_
            refine lv_icmp_ge (tgt := 28) hx hb dX2_outer_7 (by decide) (fun _ => ?_) (fun c_x => absurd (show (6 : Int32) ≤ (6 : Int32) from by decide) c_x)
            refine lv_iload_n hx hb dX2_outer_28 rfl (lv_at hl 1 rfl) ?_
            exact re_i hx hb hr hk dX2_outer_29 (ei (Eq.trans (if_neg c_1) (Eq.trans (if_neg c_2) (Eq.trans (if_pos c_3) (Eq.trans (if_pos c_7) (if_neg c_9))))))
          · refine lv_iload_n hx hb dX2_outer_20 rfl (lv_at hl 0 rfl) ?_
            refine lv_istore_n (lv' := [(2, .int (5 : Int32)), (3, .int (5 : Int32)), (0, .ref (b 0)), (1, .int p0)]) hx hb dX2_outer_21 rfl hl (Nat.le_of_ble_eq_true rfl) rfl (fun ls hl => ?_)
            refine lv_iinc (v := (6 : Int32)) (lv' := [(3, .int (6 : Int32)), (2, .int (5 : Int32)), (0, .ref (b 0)), (1, .int p0)]) hx hb dX2_outer_22 hl (k := 1) rfl (by first | rfl | decide) (Nat.le_of_ble_eq_true rfl) rfl (fun ls hl => ?_)
            refine lv_goto (tgt := 4) hx hb dX2_outer_25 (by decide) ?_
            refine lv_iload_n hx hb dX2_outer_4 rfl (lv_at hl 0 rfl) ?_
            refine lv_bipush (v := (6 : Int32)) hx hb dX2_outer_5 qb_6 ?_
            refine lv_icmp_ge (tgt := 28) hx hb dX2_outer_7 (by decide) (fun _ => ?_) (fun c_x => absurd (show (6 : Int32) ≤ (6 : Int32) from by decide) c_x)
            refine lv_iload_n hx hb dX2_outer_28 rfl (lv_at hl 1 rfl) ?_
            exact re_i hx hb hr hk dX2_outer_29 (ei (Eq.trans (if_neg c_1) (Eq.trans (if_neg c_2) (Eq.trans (if_pos c_3) (Eq.trans (if_pos c_7) (if_pos c_9))))))
    · refine lv_iload_n hx hb dX2_outer_20 rfl (lv_at hl 0 rfl) ?_
      refine lv_istore_n (lv' := [(2, .int (2 : Int32)), (3, .int (2 : Int32)), (0, .ref (b 0)), (1, .int p0)]) hx hb dX2_outer_21 rfl hl (Nat.le_of_ble_eq_true rfl) rfl (fun ls hl => ?_)
      refine lv_iinc (v := (3 : Int32)) (lv' := [(3, .int (3 : Int32)), (2, .int (2 : Int32)), (0, .ref (b 0)), (1, .int p0)]) hx hb dX2_outer_22 hl (k := 1) rfl (by first | rfl | decide) (Nat.le_of_ble_eq_true rfl) rfl (fun ls hl => ?_)
      refine lv_goto (tgt := 4) hx hb dX2_outer_25 (by decide) ?_
      refine lv_iload_n hx hb dX2_outer_4 rfl (lv_at hl 0 rfl) ?_
      refine lv_bipush (v := (6 : Int32)) hx hb dX2_outer_5 qb_6 ?_
      refine lv_icmp_ge (tgt := 28) hx hb dX2_outer_7 (by decide) (fun c_x => absurd c_x (by decide)) (fun _ => ?_)
      refine lv_aload_n hx hb dX2_outer_10 rfl (lv_at hl 2 rfl) ?_
      refine lv_iload_n hx hb dX2_outer_11 rfl (lv_at hl 0 rfl) ?_
      refine lv_iload_n hx hb dX2_outer_12 rfl (lv_at hl 1 rfl) ?_
      refine rcVi (as := [.int (3 : Int32), .int (2 : Int32)]) (rest := []) (cl := RX2) C (c_X2_order l G b T (3 : Int32) (2 : Int32) (vp_in_lit 3) (vp_in_lit 2) hT) F_X2_order rfl bw1561 bw1563 bw48 hE hP (rv4 hE.K hP (q0 := 0) rfl) hl.1 dX2_outer_13 ⟨Nat.le_of_ble_eq_true rfl, Nat.le_of_ble_eq_true rfl⟩ rfl (Nat.le_of_ble_eq_true rfl) ⟨Nat.zero_le _, Nat.zero_le _⟩ ?_
      refine lv_iload_n hx hb dX2_outer_16 rfl (lv_at hl 3 rfl) ?_
      refine lv_icmp_ne (tgt := 22) hx hb dX2_outer_17 (by decide) (fun c_10 => ?_) (fun c_10 => ?_)
      · refine lv_iinc (v := (4 : Int32)) (lv' := [(3, .int (4 : Int32)), (2, .int (2 : Int32)), (0, .ref (b 0)), (1, .int p0)]) hx hb dX2_outer_22 hl (k := 0) rfl (by first | rfl | decide) (Nat.le_of_ble_eq_true rfl) rfl (fun ls hl => ?_)
        refine lv_goto (tgt := 4) hx hb dX2_outer_25 (by decide) ?_
        refine lv_iload_n hx hb dX2_outer_4 rfl (lv_at hl 0 rfl) ?_
        refine lv_bipush (v := (6 : Int32)) hx hb dX2_outer_5 qb_6 ?_
        refine lv_icmp_ge (tgt := 28) hx hb dX2_outer_7 (by decide) (fun c_x => absurd c_x (by decide)) (fun _ => ?_)
        refine lv_aload_n hx hb dX2_outer_10 rfl (lv_at hl 2 rfl) ?_
        refine lv_iload_n hx hb dX2_outer_11 rfl (lv_at hl 0 rfl) ?_
        refine lv_iload_n hx hb dX2_outer_12 rfl (lv_at hl 1 rfl) ?_
        refine rcVi (as := [.int (4 : Int32), .int (2 : Int32)]) (rest := []) (cl := RX2) C (c_X2_order l G b T (4 : Int32) (2 : Int32) (vp_in_lit 4) (vp_in_lit 2) hT) F_X2_order rfl bw1561 bw1563 bw48 hE hP (rv4 hE.K hP (q0 := 0) rfl) hl.1 dX2_outer_13 ⟨Nat.le_of_ble_eq_true rfl, Nat.le_of_ble_eq_true rfl⟩ rfl (Nat.le_of_ble_eq_true rfl) ⟨Nat.zero_le _, Nat.zero_le _⟩ ?_
        refine lv_iload_n hx hb dX2_outer_16 rfl (lv_at hl 3 rfl) ?_
        refine lv_icmp_ne (tgt := 22) hx hb dX2_outer_17 (by decide) (fun c_11 => ?_) (fun c_11 => ?_)
        · refine lv_iinc (v := (5 : Int32)) (lv' := [(3, .int (5 : Int32)), (2, .int (2 : Int32)), (0, .ref (b 0)), (1, .int p0)]) hx hb dX2_outer_22 hl (k := 0) rfl (by first | rfl | decide) (Nat.le_of_ble_eq_true rfl) rfl (fun ls hl => ?_)
          refine lv_goto (tgt := 4) hx hb dX2_outer_25 (by decide) ?_
          refine lv_iload_n hx hb dX2_outer_4 rfl (lv_at hl 0 rfl) ?_
          refine lv_bipush (v := (6 : Int32)) hx hb dX2_outer_5 qb_6 ?_
          refine lv_icmp_ge (tgt := 28) hx hb dX2_outer_7 (by decide) (fun c_x => absurd c_x (by decide)) (fun _ => ?_)
          refine lv_aload_n hx hb dX2_outer_10 rfl (lv_at hl 2 rfl) ?_
          refine lv_iload_n hx hb dX2_outer_11 rfl (lv_at hl 0 rfl) ?_
          refine lv_iload_n hx hb dX2_outer_12 rfl (lv_at hl 1 rfl) ?_
          refine rcVi (as := [.int (5 : Int32), .int (2 : Int32)]) (rest := []) (cl := RX2) C (c_X2_order l G b T (5 : Int32) (2 : Int32) (vp_in_lit 5) (vp_in_lit 2) hT) F_X2_order rfl bw1561 bw1563 bw48 hE hP (rv4 hE.K hP (q0 := 0) rfl) hl.1 dX2_outer_13 ⟨Nat.le_of_ble_eq_true rfl, Nat.le_of_ble_eq_true rfl⟩ rfl (Nat.le_of_ble_eq_true rfl) ⟨Nat.zero_le _, Nat.zero_le _⟩ ?_
          refine lv_iload_n hx hb dX2_outer_16 rfl (lv_at hl 3 rfl) ?_
          refine lv_icmp_ne (tgt := 22) hx hb dX2_outer_17 (by decide) (fun c_12 => ?_) (fun c_12 => ?_)
          · refine lv_iinc (v := (6 : Int32)) (lv' := [(3, .int (6 : Int32)), (2, .int (2 : Int32)), (0, .ref (b 0)), (1, .int p0)]) hx hb dX2_outer_22 hl (k := 0) rfl (by first | rfl | decide) (Nat.le_of_ble_eq_true rfl) rfl (fun ls hl => ?_)
            refine lv_goto (tgt := 4) hx hb dX2_outer_25 (by decide) ?_
            refine lv_iload_n hx hb dX2_outer_4 rfl (lv_at hl 0 rfl) ?_
            refine lv_bipush (v := (6 : Int32)) hx hb dX2_outer_5 qb_6 ?_
            refine lv_icmp_ge (tgt := 28) hx hb dX2_outer_7 (by decide) (fun _ => ?_) (fun c_x => absurd (show (6 : Int32) ≤ (6 : Int32) from by decide) c_x)
            refine lv_iload_n hx hb dX2_outer_28 rfl (lv_at hl 1 rfl) ?_
            exact re_i hx hb hr hk dX2_outer_29 (ei (Eq.trans (if_neg c_1) (Eq.trans (if_pos c_2) (Eq.trans (if_neg c_10) (Eq.trans (if_neg c_11) (if_neg c_12))))))
          · refine lv_iload_n hx hb dX2_outer_20 rfl (lv_at hl 0 rfl) ?_
            refine lv_istore_n (lv' := [(2, .int (5 : Int32)), (3, .int (5 : Int32)), (0, .ref (b 0)), (1, .int p0)]) hx hb dX2_outer_21 rfl hl (Nat.le_of_ble_eq_true rfl) rfl (fun ls hl => ?_)
            refine lv_iinc (v := (6 : Int32)) (lv' := [(3, .int (6 : Int32)), (2, .int (5 : Int32)), (0, .ref (b 0)), (1, .int p0)]) hx hb dX2_outer_22 hl (k := 1) rfl (by first | rfl | decide) (Nat.le_of_ble_eq_true rfl) rfl (fun ls hl => ?_)
            refine lv_goto (tgt := 4) hx hb dX2_outer_25 (by decide) ?_
            refine lv_iload_n hx hb dX2_outer_4 rfl (lv_at hl 0 rfl) ?_
            refine lv_bipush (v := (6 : Int32)) hx hb dX2_outer_5 qb_6 ?_
            refine lv_icmp_ge (tgt := 28) hx hb dX2_outer_7 (by decide) (fun _ => ?_) (fun c_x => absurd (show (6 : Int32) ≤ (6 : Int32) from by decide) c_x)
            refine lv_iload_n hx hb dX2_outer_28 rfl (lv_at hl 1 rfl) ?_
            exact re_i hx hb hr hk dX2_outer_29 (ei (Eq.trans (if_neg c_1) (Eq.trans (if_pos c_2) (Eq.trans (if_neg c_10) (Eq.trans (if_neg c_11) (if_pos c_12))))))
        · refine lv_iload_n hx hb dX2_outer_20 rfl (lv_at hl 0 rfl) ?_
          refine lv_istore_n (lv' := [(2, .int (4 : Int32)), (3, .int (4 : Int32)), (0, .ref (b 0)), (1, .int p0)]) hx hb dX2_outer_21 rfl hl (Nat.le_of_ble_eq_true rfl) rfl (fun ls hl => ?_)
          refine lv_iinc (v := (5 : Int32)) (lv' := [(3, .int (5 : Int32)), (2, .int (4 : Int32)), (0, .ref (b 0)), (1, .int p0)]) hx hb dX2_outer_22 hl (k := 1) rfl (by first | rfl | decide) (Nat.le_of_ble_eq_true rfl) rfl (fun ls hl => ?_)
          refine lv_goto (tgt := 4) hx hb dX2_outer_25 (by decide) ?_
          refine lv_iload_n hx hb dX2_outer_4 rfl (lv_at hl 0 rfl) ?_
          refine lv_bipush (v := (6 : Int32)) hx hb dX2_outer_5 qb_6 ?_
          refine lv_icmp_ge (tgt := 28) hx hb dX2_outer_7 (by decide) (fun c_x => absurd c_x (by decide)) (fun _ => ?_)
          refine lv_aload_n hx hb dX2_outer_10 rfl (lv_at hl 2 rfl) ?_
          refine lv_iload_n hx hb dX2_outer_11 rfl (lv_at hl 0 rfl) ?_
          refine lv_iload_n hx hb dX2_outer_12 rfl (lv_at hl 1 rfl) ?_
          refine rcVi (as := [.int (5 : Int32), .int (4 : Int32)]) (rest := []) (cl := RX2) C (c_X2_order l G b T (5 : Int32) (4 : Int32) (vp_in_lit 5) (vp_in_lit 4) hT) F_X2_order rfl bw1561 bw1563 bw48 hE hP (rv4 hE.K hP (q0 := 0) rfl) hl.1 dX2_outer_13 ⟨Nat.le_of_ble_eq_true rfl, Nat.le_of_ble_eq_true rfl⟩ rfl (Nat.le_of_ble_eq_true rfl) ⟨Nat.zero_le _, Nat.zero_le _⟩ ?_
          refine lv_iload_n hx hb dX2_outer_16 rfl (lv_at hl 3 rfl) ?_
          refine lv_icmp_ne (tgt := 22) hx hb dX2_outer_17 (by decide) (fun c_13 => ?_) (fun c_13 => ?_)
          · refine lv_iinc (v := (6 : Int32)) (lv' := [(3, .int (6 : Int32)), (2, .int (4 : Int32)), (0, .ref (b 0)), (1, .int p0)]) hx hb dX2_outer_22 hl (k := 0) rfl (by first | rfl | decide) (Nat.le_of_ble_eq_true rfl) rfl (fun ls hl => ?_)
            refine lv_goto (tgt := 4) hx hb dX2_outer_25 (by decide) ?_
            refine lv_iload_n hx hb dX2_outer_4 rfl (lv_at hl 0 rfl) ?_
            refine lv_bipush (v := (6 : Int32)) hx hb dX2_outer_5 qb_6 ?_
            refine lv_icmp_ge (tgt := 28) hx hb dX2_outer_7 (by decide) (fun _ => ?_) (fun c_x => absurd (show (6 : Int32) ≤ (6 : Int32) from by decide) c_x)
            refine lv_iload_n hx hb dX2_outer_28 rfl (lv_at hl 1 rfl) ?_
            exact re_i hx hb hr hk dX2_outer_29 (ei (Eq.trans (if_neg c_1) (Eq.trans (if_pos c_2) (Eq.trans (if_neg c_10) (Eq.trans (if_pos c_11) (if_neg c_13))))))
          · refine lv_iload_n hx hb dX2_outer_20 rfl (lv_at hl 0 rfl) ?_
            refine lv_istore_n (lv' := [(2, .int (5 : Int32)), (3, .int (5 : Int32)), (0, .ref (b 0)), (1, .int p0)]) hx hb dX2_outer_21 rfl hl (Nat.le_of_ble_eq_true rfl) rfl (fun ls hl => ?_)
            refine lv_iinc (v := (6 : Int32)) (lv' := [(3, .int (6 : Int32)), (2, .int (5 : Int32)), (0, .ref (b 0)), (1, .int p0)]) hx hb dX2_outer_22 hl (k := 1) rfl (by first | rfl | decide) (Nat.le_of_ble_eq_true rfl) rfl (fun ls hl => ?_)
            refine lv_goto (tgt := 4) hx hb dX2_outer_25 (by decide) ?_
            refine lv_iload_n hx hb dX2_outer_4 rfl (lv_at hl 0 rfl) ?_
            refine lv_bipush (v := (6 : Int32)) hx hb dX2_outer_5 qb_6 ?_
            refine lv_icmp_ge (tgt := 28) hx hb dX2_outer_7 (by decide) (fun _ => ?_) (fun c_x => absurd (show (6 : Int32) ≤ (6 : Int32) from by decide) c_x)
            refine lv_iload_n hx hb dX2_outer_28 rfl (lv_at hl 1 rfl) ?_
            exact re_i hx hb hr hk dX2_outer_29 (ei (Eq.trans (if_neg c_1) (Eq.trans (if_pos c_2) (Eq.trans (if_neg c_10) (Eq.trans (if_pos c_11) (if_pos c_13))))))
      · refine lv_iload_n hx hb dX2_outer_20 rfl (lv_at hl 0 rfl) ?_
        refine lv_istore_n (lv' := [(2, .int (3 : Int32)), (3, .int (3 : Int32)), (0, .ref (b 0)), (1, .int p0)]) hx hb dX2_outer_21 rfl hl (Nat.le_of_ble_eq_true rfl) rfl (fun ls hl => ?_)
        refine lv_iinc (v := (4 : Int32)) (lv' := [(3, .int (4 : Int32)), (2, .int (3 : Int32)), (0, .ref (b 0)), (1, .int p0)]) hx hb dX2_outer_22 hl (k := 1) rfl (by first | rfl | decide) (Nat.le_of_ble_eq_true rfl) rfl (fun ls hl => ?_)
        refine lv_goto (tgt := 4) hx hb dX2_outer_25 (by decide) ?_
        refine lv_iload_n hx hb dX2_outer_4 rfl (lv_at hl 0 rfl) ?_
        refine lv_bipush (v := (6 : Int32)) hx hb dX2_outer_5 qb_6 ?_
        refine lv_icmp_ge (tgt := 28) hx hb dX2_outer_7 (by decide) (fun c_x => absurd c_x (by decide)) (fun _ => ?_)
        refine lv_aload_n hx hb dX2_outer_10 rfl (lv_at hl 2 rfl) ?_
        refine lv_iload_n hx hb dX2_outer_11 rfl (lv_at hl 0 rfl) ?_
        refine lv_iload_n hx hb dX2_outer_12 rfl (lv_at hl 1 rfl) ?_
        refine rcVi (as := [.int (4 : Int32), .int (3 : Int32)]) (rest := []) (cl := RX2) C (c_X2_order l G b T (4 : Int32) (3 : Int32) (vp_in_lit 4) (vp_in_lit 3) hT) F_X2_order rfl bw1561 bw1563 bw48 hE hP (rv4 hE.K hP (q0 := 0) rfl) hl.1 dX2_outer_13 ⟨Nat.le_of_ble_eq_true rfl, Nat.le_of_ble_eq_true rfl⟩ rfl (Nat.le_of_ble_eq_true rfl) ⟨Nat.zero_le _, Nat.zero_le _⟩ ?_
        refine lv_iload_n hx hb dX2_outer_16 rfl (lv_at hl 3 rfl) ?_
        refine lv_icmp_ne (tgt := 22) hx hb dX2_outer_17 (by decide) (fun c_14 => ?_) (fun c_14 => ?_)
        · refine lv_iinc (v := (5 : Int32)) (lv' := [(3, .int (5 : Int32)), (2, .int (3 : Int32)), (0, .ref (b 0)), (1, .int p0)]) hx hb dX2_outer_22 hl (k := 0) rfl (by first | rfl | decide) (Nat.le_of_ble_eq_true rfl) rfl (fun ls hl => ?_)
          refine lv_goto (tgt := 4) hx hb dX2_outer_25 (by decide) ?_
          refine lv_iload_n hx hb dX2_outer_4 rfl (lv_at hl 0 rfl) ?_
          refine lv_bipush (v := (6 : Int32)) hx hb dX2_outer_5 qb_6 ?_
          refine lv_icmp_ge (tgt := 28) hx hb dX2_outer_7 (by decide) (fun c_x => absurd c_x (by decide)) (fun _ => ?_)
          refine lv_aload_n hx hb dX2_outer_10 rfl (lv_at hl 2 rfl) ?_
          refine lv_iload_n hx hb dX2_outer_11 rfl (lv_at hl 0 rfl) ?_
          refine lv_iload_n hx hb dX2_outer_12 rfl (lv_at hl 1 rfl) ?_
          refine rcVi (as := [.int (5 : Int32), .int (3 : Int32)]) (rest := []) (cl := RX2) C (c_X2_order l G b T (5 : Int32) (3 : Int32) (vp_in_lit 5) (vp_in_lit 3) hT) F_X2_order rfl bw1561 bw1563 bw48 hE hP (rv4 hE.K hP (q0 := 0) rfl) hl.1 dX2_outer_13 ⟨Nat.le_of_ble_eq_true rfl, Nat.le_of_ble_eq_true rfl⟩ rfl (Nat.le_of_ble_eq_true rfl) ⟨Nat.zero_le _, Nat.zero_le _⟩ ?_
          refine lv_iload_n hx hb dX2_outer_16 rfl (lv_at hl 3 rfl) ?_
          refine lv_icmp_ne (tgt := 22) hx hb dX2_outer_17 (by decide) (fun c_15 => ?_) (fun c_15 => ?_)
          · refine lv_iinc (v := (6 : Int32)) (lv' := [(3, .int (6 : Int32)), (2, .int (3 : Int32)), (0, .ref (b 0)), (1, .int p0)]) hx hb dX2_outer_22 hl (k := 0) rfl (by first | rfl | decide) (Nat.le_of_ble_eq_true rfl) rfl (fun ls hl => ?_)
            refine lv_goto (tgt := 4) hx hb dX2_outer_25 (by decide) ?_
            refine lv_iload_n hx hb dX2_outer_4 rfl (lv_at hl 0 rfl) ?_
            refine lv_bipush (v := (6 : Int32)) hx hb dX2_outer_5 qb_6 ?_
            refine lv_icmp_ge (tgt := 28) hx hb dX2_outer_7 (by decide) (fun _ => ?_) (fun c_x => absurd (show (6 : Int32) ≤ (6 : Int32) from by decide) c_x)
            refine lv_iload_n hx hb dX2_outer_28 rfl (lv_at hl 1 rfl) ?_
            exact re_i hx hb hr hk dX2_outer_29 (ei (Eq.trans (if_neg c_1) (Eq.trans (if_pos c_2) (Eq.trans (if_pos c_10) (Eq.trans (if_neg c_14) (if_neg c_15))))))
          · refine lv_iload_n hx hb dX2_outer_20 rfl (lv_at hl 0 rfl) ?_
            refine lv_istore_n (lv' := [(2, .int (5 : Int32)), (3, .int (5 : Int32)), (0, .ref (b 0)), (1, .int p0)]) hx hb dX2_outer_21 rfl hl (Nat.le_of_ble_eq_true rfl) rfl (fun ls hl => ?_)
            refine lv_iinc (v := (6 : Int32)) (lv' := [(3, .int (6 : Int32)), (2, .int (5 : Int32)), (0, .ref (b 0)), (1, .int p0)]) hx hb dX2_outer_22 hl (k := 1) rfl (by first | rfl | decide) (Nat.le_of_ble_eq_true rfl) rfl (fun ls hl => ?_)
            refine lv_goto (tgt := 4) hx hb dX2_outer_25 (by decide) ?_
            refine lv_iload_n hx hb dX2_outer_4 rfl (lv_at hl 0 rfl) ?_
            refine lv_bipush (v := (6 : Int32)) hx hb dX2_outer_5 qb_6 ?_
            refine lv_icmp_ge (tgt := 28) hx hb dX2_outer_7 (by decide) (fun _ => ?_) (fun c_x => absurd (show (6 : Int32) ≤ (6 : Int32) from by decide) c_x)
            refine lv_iload_n hx hb dX2_outer_28 rfl (lv_at hl 1 rfl) ?_
            exact re_i hx hb hr hk dX2_outer_29 (ei (Eq.trans (if_neg c_1) (Eq.trans (if_pos c_2) (Eq.trans (if_pos c_10) (Eq.trans (if_neg c_14) (if_pos c_15))))))
        · refine lv_iload_n hx hb dX2_outer_20 rfl (lv_at hl 0 rfl) ?_
          refine lv_istore_n (lv' := [(2, .int (4 : Int32)), (3, .int (4 : Int32)), (0, .ref (b 0)), (1, .int p0)]) hx hb dX2_outer_21 rfl hl (Nat.le_of_ble_eq_true rfl) rfl (fun ls hl => ?_)
          refine lv_iinc (v := (5 : Int32)) (lv' := [(3, .int (5 : Int32)), (2, .int (4 : Int32)), (0, .ref (b 0)), (1, .int p0)]) hx hb dX2_outer_22 hl (k := 1) rfl (by first | rfl | decide) (Nat.le_of_ble_eq_true rfl) rfl (fun ls hl => ?_)
          refine lv_goto (tgt := 4) hx hb dX2_outer_25 (by decide) ?_
          refine lv_iload_n hx hb dX2_outer_4 rfl (lv_at hl 0 rfl) ?_
          refine lv_bipush (v := (6 : Int32)) hx hb dX2_outer_5 qb_6 ?_
          refine lv_icmp_ge (tgt := 28) hx hb dX2_outer_7 (by decide) (fun c_x => absurd c_x (by decide)) (fun _ => ?_)
          refine lv_aload_n hx hb dX2_outer_10 rfl (lv_at hl 2 rfl) ?_
          refine lv_iload_n hx hb dX2_outer_11 rfl (lv_at hl 0 rfl) ?_
          refine lv_iload_n hx hb dX2_outer_12 rfl (lv_at hl 1 rfl) ?_
          refine rcVi (as := [.int (5 : Int32), .int (4 : Int32)]) (rest := []) (cl := RX2) C (c_X2_order l G b T (5 : Int32) (4 : Int32) (vp_in_lit 5) (vp_in_lit 4) hT) F_X2_order rfl bw1561 bw1563 bw48 hE hP (rv4 hE.K hP (q0 := 0) rfl) hl.1 dX2_outer_13 ⟨Nat.le_of_ble_eq_true rfl, Nat.le_of_ble_eq_true rfl⟩ rfl (Nat.le_of_ble_eq_true rfl) ⟨Nat.zero_le _, Nat.zero_le _⟩ ?_
          refine lv_iload_n hx hb dX2_outer_16 rfl (lv_at hl 3 rfl) ?_
          refine lv_icmp_ne (tgt := 22) hx hb dX2_outer_17 (by decide) (fun c_16 => ?_) (fun c_16 => ?_)
          · refine lv_iinc (v := (6 : Int32)) (lv' := [(3, .int (6 : Int32)), (2, .int (4 : Int32)), (0, .ref (b 0)), (1, .int p0)]) hx hb dX2_outer_22 hl (k := 0) rfl (by first | rfl | decide) (Nat.le_of_ble_eq_true rfl) rfl (fun ls hl => ?_)
            refine lv_goto (tgt := 4) hx hb dX2_outer_25 (by decide) ?_
            refine lv_iload_n hx hb dX2_outer_4 rfl (lv_at hl 0 rfl) ?_
            refine lv_bipush (v := (6 : Int32)) hx hb dX2_outer_5 qb_6 ?_
            refine lv_icmp_ge (tgt := 28) hx hb dX2_outer_7 (by decide) (fun _ => ?_) (fun c_x => absurd (show (6 : Int32) ≤ (6 : Int32) from by decide) c_x)
            refine lv_iload_n hx hb dX2_outer_28 rfl (lv_at hl 1 rfl) ?_
            exact re_i hx hb hr hk dX2_outer_29 (ei (Eq.trans (if_neg c_1) (Eq.trans (if_pos c_2) (Eq.trans (if_pos c_10) (Eq.trans (if_pos c_14) (if_neg c_16))))))
          · refine lv_iload_n hx hb dX2_outer_20 rfl (lv_at hl 0 rfl) ?_
            refine lv_istore_n (lv' := [(2, .int (5 : Int32)), (3, .int (5 : Int32)), (0, .ref (b 0)), (1, .int p0)]) hx hb dX2_outer_21 rfl hl (Nat.le_of_ble_eq_true rfl) rfl (fun ls hl => ?_)
            refine lv_iinc (v := (6 : Int32)) (lv' := [(3, .int (6 : Int32)), (2, .int (5 : Int32)), (0, .ref (b 0)), (1, .int p0)]) hx hb dX2_outer_22 hl (k := 1) rfl (by first | rfl | decide) (Nat.le_of_ble_eq_true rfl) rfl (fun ls hl => ?_)
            refine lv_goto (tgt := 4) hx hb dX2_outer_25 (by decide) ?_
            refine lv_iload_n hx hb dX2_outer_4 rfl (lv_at hl 0 rfl) ?_
            refine lv_bipush (v := (6 : Int32)) hx hb dX2_outer_5 qb_6 ?_
            refine lv_icmp_ge (tgt := 28) hx hb dX2_outer_7 (by decide) (fun _ => ?_) (fun c_x => absurd (show (6 : Int32) ≤ (6 : Int32) from by decide) c_x)
            refine lv_iload_n hx hb dX2_outer_28 rfl (lv_at hl 1 rfl) ?_
            exact re_i hx hb hr hk dX2_outer_29 (ei (Eq.trans (if_neg c_1) (Eq.trans (if_pos c_2) (Eq.trans (if_pos c_10) (Eq.trans (if_pos c_14) (if_pos c_16))))))
  · refine lv_iload_n hx hb dX2_outer_20 rfl (lv_at hl 0 rfl) ?_
    refine lv_istore_n (lv' := [(2, .int (1 : Int32)), (3, .int (1 : Int32)), (0, .ref (b 0)), (1, .int p0)]) hx hb dX2_outer_21 rfl hl (Nat.le_of_ble_eq_true rfl) rfl (fun ls hl => ?_)
    refine lv_iinc (v := (2 : Int32)) (lv' := [(3, .int (2 : Int32)), (2, .int (1 : Int32)), (0, .ref (b 0)), (1, .int p0)]) hx hb dX2_outer_22 hl (k := 1) rfl (by first | rfl | decide) (Nat.le_of_ble_eq_true rfl) rfl (fun ls hl => ?_)
    refine lv_goto (tgt := 4) hx hb dX2_outer_25 (by decide) ?_
    refine lv_iload_n hx hb dX2_outer_4 rfl (lv_at hl 0 rfl) ?_
    refine lv_bipush (v := (6 : Int32)) hx hb dX2_outer_5 qb_6 ?_
    refine lv_icmp_ge (tgt := 28) hx hb dX2_outer_7 (by decide) (fun c_x => absurd c_x (by decide)) (fun _ => ?_)
    refine lv_aload_n hx hb dX2_outer_10 rfl (lv_at hl 2 rfl) ?_
    refine lv_iload_n hx hb dX2_outer_11 rfl (lv_at hl 0 rfl) ?_
    refine lv_iload_n hx hb dX2_outer_12 rfl (lv_at hl 1 rfl) ?_
    refine rcVi (as := [.int (2 : Int32), .int (1 : Int32)]) (rest := []) (cl := RX2) C (c_X2_order l G b T (2 : Int32) (1 : Int32) (vp_in_lit 2) (vp_in_lit 1) hT) F_X2_order rfl bw1561 bw1563 bw48 hE hP (rv4 hE.K hP (q0 := 0) rfl) hl.1 dX2_outer_13 ⟨Nat.le_of_ble_eq_true rfl, Nat.le_of_ble_eq_true rfl⟩ rfl (Nat.le_of_ble_eq_true rfl) ⟨Nat.zero_le _, Nat.zero_le _⟩ ?_
    refine lv_iload_n hx hb dX2_outer_16 rfl (lv_at hl 3 rfl) ?_
    refine lv_icmp_ne (tgt := 22) hx hb dX2_outer_17 (by decide) (fun c_17 => ?_) (fun c_17 => ?_)
    · refine lv_iinc (v := (3 : Int32)) (lv' := [(3, .int (3 : Int32)), (2, .int (1 : Int32)), (0, .ref (b 0)), (1, .int p0)]) hx hb dX2_outer_22 hl (k := 0) rfl (by first | rfl | decide) (Nat.le_of_ble_eq_true rfl) rfl (fun ls hl => ?_)
      refine lv_goto (tgt := 4) hx hb dX2_outer_25 (by decide) ?_
      refine lv_iload_n hx hb dX2_outer_4 rfl (lv_at hl 0 rfl) ?_
      refine lv_bipush (v := (6 : Int32)) hx hb dX2_outer_5 qb_6 ?_
      refine lv_icmp_ge (tgt := 28) hx hb dX2_outer_7 (by decide) (fun c_x => absurd c_x (by decide)) (fun _ => ?_)
      refine lv_aload_n hx hb dX2_outer_10 rfl (lv_at hl 2 rfl) ?_
      refine lv_iload_n hx hb dX2_outer_11 rfl (lv_at hl 0 rfl) ?_
      refine lv_iload_n hx hb dX2_outer_12 rfl (lv_at hl 1 rfl) ?_
      refine rcVi (as := [.int (3 : Int32), .int (1 : Int32)]) (rest := []) (cl := RX2) C (c_X2_order l G b T (3 : Int32) (1 : Int32) (vp_in_lit 3) (vp_in_lit 1) hT) F_X2_order rfl bw1561 bw1563 bw48 hE hP (rv4 hE.K hP (q0 := 0) rfl) hl.1 dX2_outer_13 ⟨Nat.le_of_ble_eq_true rfl, Nat.le_of_ble_eq_true rfl⟩ rfl (Nat.le_of_ble_eq_true rfl) ⟨Nat.zero_le _, Nat.zero_le _⟩ ?_
      refine lv_iload_n hx hb dX2_outer_16 rfl (lv_at hl 3 rfl) ?_
      refine lv_icmp_ne (tgt := 22) hx hb dX2_outer_17 (by decide) (fun c_18 => ?_) (fun c_18 => ?_)
      · refine lv_iinc (v := (4 : Int32)) (lv' := [(3, .int (4 : Int32)), (2, .int (1 : Int32)), (0, .ref (b 0)), (1, .int p0)]) hx hb dX2_outer_22 hl (k := 0) rfl (by first | rfl | decide) (Nat.le_of_ble_eq_true rfl) rfl (fun ls hl => ?_)
        refine lv_goto (tgt := 4) hx hb dX2_outer_25 (by decide) ?_
        refine lv_iload_n hx hb dX2_outer_4 rfl (lv_at hl 0 rfl) ?_
        refine lv_bipush (v := (6 : Int32)) hx hb dX2_outer_5 qb_6 ?_
        refine lv_icmp_ge (tgt := 28) hx hb dX2_outer_7 (by decide) (fun c_x => absurd c_x (by decide)) (fun _ => ?_)
        refine lv_aload_n hx hb dX2_outer_10 rfl (lv_at hl 2 rfl) ?_
        refine lv_iload_n hx hb dX2_outer_11 rfl (lv_at hl 0 rfl) ?_
        refine lv_iload_n hx hb dX2_outer_12 rfl (lv_at hl 1 rfl) ?_
        refine rcVi (as := [.int (4 : Int32), .int (1 : Int32)]) (rest := []) (cl := RX2) C (c_X2_order l G b T (4 : Int32) (1 : Int32) (vp_in_lit 4) (vp_in_lit 1) hT) F_X2_order rfl bw1561 bw1563 bw48 hE hP (rv4 hE.K hP (q0 := 0) rfl) hl.1 dX2_outer_13 ⟨Nat.le_of_ble_eq_true rfl, Nat.le_of_ble_eq_true rfl⟩ rfl (Nat.le_of_ble_eq_true rfl) ⟨Nat.zero_le _, Nat.zero_le _⟩ ?_
        refine lv_iload_n hx hb dX2_outer_16 rfl (lv_at hl 3 rfl) ?_
        refine lv_icmp_ne (tgt := 22) hx hb dX2_outer_17 (by decide) (fun c_19 => ?_) (fun c_19 => ?_)
        · refine lv_iinc (v := (5 : Int32)) (lv' := [(3, .int (5 : Int32)), (2, .int (1 : Int32)), (0, .ref (b 0)), (1, .int p0)]) hx hb dX2_outer_22 hl (k := 0) rfl (by first | rfl | decide) (Nat.le_of_ble_eq_true rfl) rfl (fun ls hl => ?_)
          refine lv_goto (tgt := 4) hx hb dX2_outer_25 (by decide) ?_
          refine lv_iload_n hx hb dX2_outer_4 rfl (lv_at hl 0 rfl) ?_
          refine lv_bipush (v := (6 : Int32)) hx hb dX2_outer_5 qb_6 ?_
          refine lv_icmp_ge (tgt := 28) hx hb dX2_outer_7 (by decide) (fun c_x => absurd c_x (by decide)) (fun _ => ?_)
          refine lv_aload_n hx hb dX2_outer_10 rfl (lv_at hl 2 rfl) ?_
          refine lv_iload_n hx hb dX2_outer_11 rfl (lv_at hl 0 rfl) ?_
          refine lv_iload_n hx hb dX2_outer_12 rfl (lv_at hl 1 rfl) ?_
          refine rcVi (as := [.int (5 : Int32), .int (1 : Int32)]) (rest := []) (cl := RX2) C (c_X2_order l G b T (5 : Int32) (1 : Int32) (vp_in_lit 5) (vp_in_lit 1) hT) F_X2_order rfl bw1561 bw1563 bw48 hE hP (rv4 hE.K hP (q0 := 0) rfl) hl.1 dX2_outer_13 ⟨Nat.le_of_ble_eq_true rfl, Nat.le_of_ble_eq_true rfl⟩ rfl (Nat.le_of_ble_eq_true rfl) ⟨Nat.zero_le _, Nat.zero_le _⟩ ?_
          refine lv_iload_n hx hb dX2_outer_16 rfl (lv_at hl 3 rfl) ?_
          refine lv_icmp_ne (tgt := 22) hx hb dX2_outer_17 (by decide) (fun c_20 => ?_) (fun c_20 => ?_)
          · refine lv_iinc (v := (6 : Int32)) (lv' := [(3, .int (6 : Int32)), (2, .int (1 : Int32)), (0, .ref (b 0)), (1, .int p0)]) hx hb dX2_outer_22 hl (k := 0) rfl (by first | rfl | decide) (Nat.le_of_ble_eq_true rfl) rfl (fun ls hl => ?_)
            refine lv_goto (tgt := 4) hx hb dX2_outer_25 (by decide) ?_
            refine lv_iload_n hx hb dX2_outer_4 rfl (lv_at hl 0 rfl) ?_
            refine lv_bipush (v := (6 : Int32)) hx hb dX2_outer_5 qb_6 ?_
            refine lv_icmp_ge (tgt := 28) hx hb dX2_outer_7 (by decide) (fun _ => ?_) (fun c_x => absurd (show (6 : Int32) ≤ (6 : Int32) from by decide) c_x)
            refine lv_iload_n hx hb dX2_outer_28 rfl (lv_at hl 1 rfl) ?_
            exact re_i hx hb hr hk dX2_outer_29 (ei (Eq.trans (if_pos c_1) (Eq.trans (if_neg c_17) (Eq.trans (if_neg c_18) (Eq.trans (if_neg c_19) (if_neg c_20))))))
          · refine lv_iload_n hx hb dX2_outer_20 rfl (lv_at hl 0 rfl) ?_
            refine lv_istore_n (lv' := [(2, .int (5 : Int32)), (3, .int (5 : Int32)), (0, .ref (b 0)), (1, .int p0)]) hx hb dX2_outer_21 rfl hl (Nat.le_of_ble_eq_true rfl) rfl (fun ls hl => ?_)
            refine lv_iinc (v := (6 : Int32)) (lv' := [(3, .int (6 : Int32)), (2, .int (5 : Int32)), (0, .ref (b 0)), (1, .int p0)]) hx hb dX2_outer_22 hl (k := 1) rfl (by first | rfl | decide) (Nat.le_of_ble_eq_true rfl) rfl (fun ls hl => ?_)
            refine lv_goto (tgt := 4) hx hb dX2_outer_25 (by decide) ?_
            refine lv_iload_n hx hb dX2_outer_4 rfl (lv_at hl 0 rfl) ?_
            refine lv_bipush (v := (6 : Int32)) hx hb dX2_outer_5 qb_6 ?_
            refine lv_icmp_ge (tgt := 28) hx hb dX2_outer_7 (by decide) (fun _ => ?_) (fun c_x => absurd (show (6 : Int32) ≤ (6 : Int32) from by decide) c_x)
            refine lv_iload_n hx hb dX2_outer_28 rfl (lv_at hl 1 rfl) ?_
            exact re_i hx hb hr hk dX2_outer_29 (ei (Eq.trans (if_pos c_1) (Eq.trans (if_neg c_17) (Eq.trans (if_neg c_18) (Eq.trans (if_neg c_19) (if_pos c_20))))))
        · refine lv_iload_n hx hb dX2_outer_20 rfl (lv_at hl 0 rfl) ?_
          refine lv_istore_n (lv' := [(2, .int (4 : Int32)), (3, .int (4 : Int32)), (0, .ref (b 0)), (1, .int p0)]) hx hb dX2_outer_21 rfl hl (Nat.le_of_ble_eq_true rfl) rfl (fun ls hl => ?_)
          refine lv_iinc (v := (5 : Int32)) (lv' := [(3, .int (5 : Int32)), (2, .int (4 : Int32)), (0, .ref (b 0)), (1, .int p0)]) hx hb dX2_outer_22 hl (k := 1) rfl (by first | rfl | decide) (Nat.le_of_ble_eq_true rfl) rfl (fun ls hl => ?_)
          refine lv_goto (tgt := 4) hx hb dX2_outer_25 (by decide) ?_
          refine lv_iload_n hx hb dX2_outer_4 rfl (lv_at hl 0 rfl) ?_
          refine lv_bipush (v := (6 : Int32)) hx hb dX2_outer_5 qb_6 ?_
          refine lv_icmp_ge (tgt := 28) hx hb dX2_outer_7 (by decide) (fun c_x => absurd c_x (by decide)) (fun _ => ?_)
          refine lv_aload_n hx hb dX2_outer_10 rfl (lv_at hl 2 rfl) ?_
          refine lv_iload_n hx hb dX2_outer_11 rfl (lv_at hl 0 rfl) ?_
          refine lv_iload_n hx hb dX2_outer_12 rfl (lv_at hl 1 rfl) ?_
          refine rcVi (as := [.int (5 : Int32), .int (4 : Int32)]) (rest := []) (cl := RX2) C (c_X2_order l G b T (5 : Int32) (4 : Int32) (vp_in_lit 5) (vp_in_lit 4) hT) F_X2_order rfl bw1561 bw1563 bw48 hE hP (rv4 hE.K hP (q0 := 0) rfl) hl.1 dX2_outer_13 ⟨Nat.le_of_ble_eq_true rfl, Nat.le_of_ble_eq_true rfl⟩ rfl (Nat.le_of_ble_eq_true rfl) ⟨Nat.zero_le _, Nat.zero_le _⟩ ?_
          refine lv_iload_n hx hb dX2_outer_16 rfl (lv_at hl 3 rfl) ?_
          refine lv_icmp_ne (tgt := 22) hx hb dX2_outer_17 (by decide) (fun c_21 => ?_) (fun c_21 => ?_)
          · refine lv_iinc (v := (6 : Int32)) (lv' := [(3, .int (6 : Int32)), (2, .int (4 : Int32)), (0, .ref (b 0)), (1, .int p0)]) hx hb dX2_outer_22 hl (k := 0) rfl (by first | rfl | decide) (Nat.le_of_ble_eq_true rfl) rfl (fun ls hl => ?_)
            refine lv_goto (tgt := 4) hx hb dX2_outer_25 (by decide) ?_
            refine lv_iload_n hx hb dX2_outer_4 rfl (lv_at hl 0 rfl) ?_
            refine lv_bipush (v := (6 : Int32)) hx hb dX2_outer_5 qb_6 ?_
            refine lv_icmp_ge (tgt := 28) hx hb dX2_outer_7 (by decide) (fun _ => ?_) (fun c_x => absurd (show (6 : Int32) ≤ (6 : Int32) from by decide) c_x)
            refine lv_iload_n hx hb dX2_outer_28 rfl (lv_at hl 1 rfl) ?_
            exact re_i hx hb hr hk dX2_outer_29 (ei (Eq.trans (if_pos c_1) (Eq.trans (if_neg c_17) (Eq.trans (if_neg c_18) (Eq.trans (if_pos c_19) (if_neg c_21))))))
          · refine lv_iload_n hx hb dX2_outer_20 rfl (lv_at hl 0 rfl) ?_
            refine lv_istore_n (lv' := [(2, .int (5 : Int32)), (3, .int (5 : Int32)), (0, .ref (b 0)), (1, .int p0)]) hx hb dX2_outer_21 rfl hl (Nat.le_of_ble_eq_true rfl) rfl (fun ls hl => ?_)
            refine lv_iinc (v := (6 : Int32)) (lv' := [(3, .int (6 : Int32)), (2, .int (5 : Int32)), (0, .ref (b 0)), (1, .int p0)]) hx hb dX2_outer_22 hl (k := 1) rfl (by first | rfl | decide) (Nat.le_of_ble_eq_true rfl) rfl (fun ls hl => ?_)
            refine lv_goto (tgt := 4) hx hb dX2_outer_25 (by decide) ?_
            refine lv_iload_n hx hb dX2_outer_4 rfl (lv_at hl 0 rfl) ?_
            refine lv_bipush (v := (6 : Int32)) hx hb dX2_outer_5 qb_6 ?_
            refine lv_icmp_ge (tgt := 28) hx hb dX2_outer_7 (by decide) (fun _ => ?_) (fun c_x => absurd (show (6 : Int32) ≤ (6 : Int32) from by decide) c_x)
            refine lv_iload_n hx hb dX2_outer_28 rfl (lv_at hl 1 rfl) ?_
            exact re_i hx hb hr hk dX2_outer_29 (ei (Eq.trans (if_pos c_1) (Eq.trans (if_neg c_17) (Eq.trans (if_neg c_18) (Eq.trans (if_pos c_19) (if_pos c_21))))))
      · refine lv_iload_n hx hb dX2_outer_20 rfl (lv_at hl 0 rfl) ?_
        refine lv_istore_n (lv' := [(2, .int (3 : Int32)), (3, .int (3 : Int32)), (0, .ref (b 0)), (1, .int p0)]) hx hb dX2_outer_21 rfl hl (Nat.le_of_ble_eq_true rfl) rfl (fun ls hl => ?_)
        refine lv_iinc (v := (4 : Int32)) (lv' := [(3, .int (4 : Int32)), (2, .int (3 : Int32)), (0, .ref (b 0)), (1, .int p0)]) hx hb dX2_outer_22 hl (k := 1) rfl (by first | rfl | decide) (Nat.le_of_ble_eq_true rfl) rfl (fun ls hl => ?_)
        refine lv_goto (tgt := 4) hx hb dX2_outer_25 (by decide) ?_
        refine lv_iload_n hx hb dX2_outer_4 rfl (lv_at hl 0 rfl) ?_
        refine lv_bipush (v := (6 : Int32)) hx hb dX2_outer_5 qb_6 ?_
        refine lv_icmp_ge (tgt := 28) hx hb dX2_outer_7 (by decide) (fun c_x => absurd c_x (by decide)) (fun _ => ?_)
        refine lv_aload_n hx hb dX2_outer_10 rfl (lv_at hl 2 rfl) ?_
        refine lv_iload_n hx hb dX2_outer_11 rfl (lv_at hl 0 rfl) ?_
        refine lv_iload_n hx hb dX2_outer_12 rfl (lv_at hl 1 rfl) ?_
        refine rcVi (as := [.int (4 : Int32), .int (3 : Int32)]) (rest := []) (cl := RX2) C (c_X2_order l G b T (4 : Int32) (3 : Int32) (vp_in_lit 4) (vp_in_lit 3) hT) F_X2_order rfl bw1561 bw1563 bw48 hE hP (rv4 hE.K hP (q0 := 0) rfl) hl.1 dX2_outer_13 ⟨Nat.le_of_ble_eq_true rfl, Nat.le_of_ble_eq_true rfl⟩ rfl (Nat.le_of_ble_eq_true rfl) ⟨Nat.zero_le _, Nat.zero_le _⟩ ?_
        refine lv_iload_n hx hb dX2_outer_16 rfl (lv_at hl 3 rfl) ?_
        refine lv_icmp_ne (tgt := 22) hx hb dX2_outer_17 (by decide) (fun c_22 => ?_) (fun c_22 => ?_)
        · refine lv_iinc (v := (5 : Int32)) (lv' := [(3, .int (5 : Int32)), (2, .int (3 : Int32)), (0, .ref (b 0)), (1, .int p0)]) hx hb dX2_outer_22 hl (k := 0) rfl (by first | rfl | decide) (Nat.le_of_ble_eq_true rfl) rfl (fun ls hl => ?_)
          refine lv_goto (tgt := 4) hx hb dX2_outer_25 (by decide) ?_
          refine lv_iload_n hx hb dX2_outer_4 rfl (lv_at hl 0 rfl) ?_
          refine lv_bipush (v := (6 : Int32)) hx hb dX2_outer_5 qb_6 ?_
          refine lv_icmp_ge (tgt := 28) hx hb dX2_outer_7 (by decide) (fun c_x => absurd c_x (by decide)) (fun _ => ?_)
          refine lv_aload_n hx hb dX2_outer_10 rfl (lv_at hl 2 rfl) ?_
          refine lv_iload_n hx hb dX2_outer_11 rfl (lv_at hl 0 rfl) ?_
          refine lv_iload_n hx hb dX2_outer_12 rfl (lv_at hl 1 rfl) ?_
          refine rcVi (as := [.int (5 : Int32), .int (3 : Int32)]) (rest := []) (cl := RX2) C (c_X2_order l G b T (5 : Int32) (3 : Int32) (vp_in_lit 5) (vp_in_lit 3) hT) F_X2_order rfl bw1561 bw1563 bw48 hE hP (rv4 hE.K hP (q0 := 0) rfl) hl.1 dX2_outer_13 ⟨Nat.le_of_ble_eq_true rfl, Nat.le_of_ble_eq_true rfl⟩ rfl (Nat.le_of_ble_eq_true rfl) ⟨Nat.zero_le _, Nat.zero_le _⟩ ?_
          refine lv_iload_n hx hb dX2_outer_16 rfl (lv_at hl 3 rfl) ?_
          refine lv_icmp_ne (tgt := 22) hx hb dX2_outer_17 (by decide) (fun c_23 => ?_) (fun c_23 => ?_)
          · refine lv_iinc (v := (6 : Int32)) (lv' := [(3, .int (6 : Int32)), (2, .int (3 : Int32)), (0, .ref (b 0)), (1, .int p0)]) hx hb dX2_outer_22 hl (k := 0) rfl (by first | rfl | decide) (Nat.le_of_ble_eq_true rfl) rfl (fun ls hl => ?_)
            refine lv_goto (tgt := 4) hx hb dX2_outer_25 (by decide) ?_
            refine lv_iload_n hx hb dX2_outer_4 rfl (lv_at hl 0 rfl) ?_
            refine lv_bipush (v := (6 : Int32)) hx hb dX2_outer_5 qb_6 ?_
            refine lv_icmp_ge (tgt := 28) hx hb dX2_outer_7 (by decide) (fun _ => ?_) (fun c_x => absurd (show (6 : Int32) ≤ (6 : Int32) from by decide) c_x)
            refine lv_iload_n hx hb dX2_outer_28 rfl (lv_at hl 1 rfl) ?_
            exact re_i hx hb hr hk dX2_outer_29 (ei (Eq.trans (if_pos c_1) (Eq.trans (if_neg c_17) (Eq.trans (if_pos c_18) (Eq.trans (if_neg c_22) (if_neg c_23))))))
          · refine lv_iload_n hx hb dX2_outer_20 rfl (lv_at hl 0 rfl) ?_
            refine lv_istore_n (lv' := [(2, .int (5 : Int32)), (3, .int (5 : Int32)), (0, .ref (b 0)), (1, .int p0)]) hx hb dX2_outer_21 rfl hl (Nat.le_of_ble_eq_true rfl) rfl (fun ls hl => ?_)
            refine lv_iinc (v := (6 : Int32)) (lv' := [(3, .int (6 : Int32)), (2, .int (5 : Int32)), (0, .ref (b 0)), (1, .int p0)]) hx hb dX2_outer_22 hl (k := 1) rfl (by first | rfl | decide) (Nat.le_of_ble_eq_true rfl) rfl (fun ls hl => ?_)
            refine lv_goto (tgt := 4) hx hb dX2_outer_25 (by decide) ?_
            refine lv_iload_n hx hb dX2_outer_4 rfl (lv_at hl 0 rfl) ?_
            refine lv_bipush (v := (6 : Int32)) hx hb dX2_outer_5 qb_6 ?_
            refine lv_icmp_ge (tgt := 28) hx hb dX2_outer_7 (by decide) (fun _ => ?_) (fun c_x => absurd (show (6 : Int32) ≤ (6 : Int32) from by decide) c_x)
            refine lv_iload_n hx hb dX2_outer_28 rfl (lv_at hl 1 rfl) ?_
            exact re_i hx hb hr hk dX2_outer_29 (ei (Eq.trans (if_pos c_1) (Eq.trans (if_neg c_17) (Eq.trans (if_pos c_18) (Eq.trans (if_neg c_22) (if_pos c_23))))))
        · refine lv_iload_n hx hb dX2_outer_20 rfl (lv_at hl 0 rfl) ?_
          refine lv_istore_n (lv' := [(2, .int (4 : Int32)), (3, .int (4 : Int32)), (0, .ref (b 0)), (1, .int p0)]) hx hb dX2_outer_21 rfl hl (Nat.le_of_ble_eq_true rfl) rfl (fun ls hl => ?_)
          refine lv_iinc (v := (5 : Int32)) (lv' := [(3, .int (5 : Int32)), (2, .int (4 : Int32)), (0, .ref (b 0)), (1, .int p0)]) hx hb dX2_outer_22 hl (k := 1) rfl (by first | rfl | decide) (Nat.le_of_ble_eq_true rfl) rfl (fun ls hl => ?_)
          refine lv_goto (tgt := 4) hx hb dX2_outer_25 (by decide) ?_
          refine lv_iload_n hx hb dX2_outer_4 rfl (lv_at hl 0 rfl) ?_
          refine lv_bipush (v := (6 : Int32)) hx hb dX2_outer_5 qb_6 ?_
          refine lv_icmp_ge (tgt := 28) hx hb dX2_outer_7 (by decide) (fun c_x => absurd c_x (by decide)) (fun _ => ?_)
          refine lv_aload_n hx hb dX2_outer_10 rfl (lv_at hl 2 rfl) ?_
          refine lv_iload_n hx hb dX2_outer_11 rfl (lv_at hl 0 rfl) ?_
          refine lv_iload_n hx hb dX2_outer_12 rfl (lv_at hl 1 rfl) ?_
          refine rcVi (as := [.int (5 : Int32), .int (4 : Int32)]) (rest := []) (cl := RX2) C (c_X2_order l G b T (5 : Int32) (4 : Int32) (vp_in_lit 5) (vp_in_lit 4) hT) F_X2_order rfl bw1561 bw1563 bw48 hE hP (rv4 hE.K hP (q0 := 0) rfl) hl.1 dX2_outer_13 ⟨Nat.le_of_ble_eq_true rfl, Nat.le_of_ble_eq_true rfl⟩ rfl (Nat.le_of_ble_eq_true rfl) ⟨Nat.zero_le _, Nat.zero_le _⟩ ?_
          refine lv_iload_n hx hb dX2_outer_16 rfl (lv_at hl 3 rfl) ?_
          refine lv_icmp_ne (tgt := 22) hx hb dX2_outer_17 (by decide) (fun c_24 => ?_) (fun c_24 => ?_)
          · refine lv_iinc (v := (6 : Int32)) (lv' := [(3, .int (6 : Int32)), (2, .int (4 : Int32)), (0, .ref (b 0)), (1, .int p0)]) hx hb dX2_outer_22 hl (k := 0) rfl (by first | rfl | decide) (Nat.le_of_ble_eq_true rfl) rfl (fun ls hl => ?_)
            refine lv_goto (tgt := 4) hx hb dX2_outer_25 (by decide) ?_
            refine lv_iload_n hx hb dX2_outer_4 rfl (lv_at hl 0 rfl) ?_
            refine lv_bipush (v := (6 : Int32)) hx hb dX2_outer_5 qb_6 ?_
            refine lv_icmp_ge (tgt := 28) hx hb dX2_outer_7 (by decide) (fun _ => ?_) (fun c_x => absurd (show (6 : Int32) ≤ (6 : Int32) from by decide) c_x)
            refine lv_iload_n hx hb dX2_outer_28 rfl (lv_at hl 1 rfl) ?_
            exact re_i hx hb hr hk dX2_outer_29 (ei (Eq.trans (if_pos c_1) (Eq.trans (if_neg c_17) (Eq.trans (if_pos c_18) (Eq.trans (if_pos c_22) (if_neg c_24))))))
          · refine lv_iload_n hx hb dX2_outer_20 rfl (lv_at hl 0 rfl) ?_
            refine lv_istore_n (lv' := [(2, .int (5 : Int32)), (3, .int (5 : Int32)), (0, .ref (b 0)), (1, .int p0)]) hx hb dX2_outer_21 rfl hl (Nat.le_of_ble_eq_true rfl) rfl (fun ls hl => ?_)
            refine lv_iinc (v := (6 : Int32)) (lv' := [(3, .int (6 : Int32)), (2, .int (5 : Int32)), (0, .ref (b 0)), (1, .int p0)]) hx hb dX2_outer_22 hl (k := 1) rfl (by first | rfl | decide) (Nat.le_of_ble_eq_true rfl) rfl (fun ls hl => ?_)
            refine lv_goto (tgt := 4) hx hb dX2_outer_25 (by decide) ?_
            refine lv_iload_n hx hb dX2_outer_4 rfl (lv_at hl 0 rfl) ?_
            refine lv_bipush (v := (6 : Int32)) hx hb dX2_outer_5 qb_6 ?_
            refine lv_icmp_ge (tgt := 28) hx hb dX2_outer_7 (by decide) (fun _ => ?_) (fun c_x => absurd (show (6 : Int32) ≤ (6 : Int32) from by decide) c_x)
            refine lv_iload_n hx hb dX2_outer_28 rfl (lv_at hl 1 rfl) ?_
            exact re_i hx hb hr hk dX2_outer_29 (ei (Eq.trans (if_pos c_1) (Eq.trans (if_neg c_17) (Eq.trans (if_pos c_18) (Eq.trans (if_pos c_22) (if_pos c_24))))))
    · refine lv_iload_n hx hb dX2_outer_20 rfl (lv_at hl 0 rfl) ?_
      refine lv_istore_n (lv' := [(2, .int (2 : Int32)), (3, .int (2 : Int32)), (0, .ref (b 0)), (1, .int p0)]) hx hb dX2_outer_21 rfl hl (Nat.le_of_ble_eq_true rfl) rfl (fun ls hl => ?_)
      refine lv_iinc (v := (3 : Int32)) (lv' := [(3, .int (3 : Int32)), (2, .int (2 : Int32)), (0, .ref (b 0)), (1, .int p0)]) hx hb dX2_outer_22 hl (k := 1) rfl (by first | rfl | decide) (Nat.le_of_ble_eq_true rfl) rfl (fun ls hl => ?_)
      refine lv_goto (tgt := 4) hx hb dX2_outer_25 (by decide) ?_
      refine lv_iload_n hx hb dX2_outer_4 rfl (lv_at hl 0 rfl) ?_
      refine lv_bipush (v := (6 : Int32)) hx hb dX2_outer_5 qb_6 ?_
      refine lv_icmp_ge (tgt := 28) hx hb dX2_outer_7 (by decide) (fun c_x => absurd c_x (by decide)) (fun _ => ?_)
      refine lv_aload_n hx hb dX2_outer_10 rfl (lv_at hl 2 rfl) ?_
      refine lv_iload_n hx hb dX2_outer_11 rfl (lv_at hl 0 rfl) ?_
      refine lv_iload_n hx hb dX2_outer_12 rfl (lv_at hl 1 rfl) ?_
      refine rcVi (as := [.int (3 : Int32), .int (2 : Int32)]) (rest := []) (cl := RX2) C (c_X2_order l G b T (3 : Int32) (2 : Int32) (vp_in_lit 3) (vp_in_lit 2) hT) F_X2_order rfl bw1561 bw1563 bw48 hE hP (rv4 hE.K hP (q0 := 0) rfl) hl.1 dX2_outer_13 ⟨Nat.le_of_ble_eq_true rfl, Nat.le_of_ble_eq_true rfl⟩ rfl (Nat.le_of_ble_eq_true rfl) ⟨Nat.zero_le _, Nat.zero_le _⟩ ?_
      refine lv_iload_n hx hb dX2_outer_16 rfl (lv_at hl 3 rfl) ?_
      refine lv_icmp_ne (tgt := 22) hx hb dX2_outer_17 (by decide) (fun c_25 => ?_) (fun c_25 => ?_)
      · refine lv_iinc (v := (4 : Int32)) (lv' := [(3, .int (4 : Int32)), (2, .int (2 : Int32)), (0, .ref (b 0)), (1, .int p0)]) hx hb dX2_outer_22 hl (k := 0) rfl (by first | rfl | decide) (Nat.le_of_ble_eq_true rfl) rfl (fun ls hl => ?_)
        refine lv_goto (tgt := 4) hx hb dX2_outer_25 (by decide) ?_
        refine lv_iload_n hx hb dX2_outer_4 rfl (lv_at hl 0 rfl) ?_
        refine lv_bipush (v := (6 : Int32)) hx hb dX2_outer_5 qb_6 ?_
        refine lv_icmp_ge (tgt := 28) hx hb dX2_outer_7 (by decide) (fun c_x => absurd c_x (by decide)) (fun _ => ?_)
        refine lv_aload_n hx hb dX2_outer_10 rfl (lv_at hl 2 rfl) ?_
        refine lv_iload_n hx hb dX2_outer_11 rfl (lv_at hl 0 rfl) ?_
        refine lv_iload_n hx hb dX2_outer_12 rfl (lv_at hl 1 rfl) ?_
        refine rcVi (as := [.int (4 : Int32), .int (2 : Int32)]) (rest := []) (cl := RX2) C (c_X2_order l G b T (4 : Int32) (2 : Int32) (vp_in_lit 4) (vp_in_lit 2) hT) F_X2_order rfl bw1561 bw1563 bw48 hE hP (rv4 hE.K hP (q0 := 0) rfl) hl.1 dX2_outer_13 ⟨Nat.le_of_ble_eq_true rfl, Nat.le_of_ble_eq_true rfl⟩ rfl (Nat.le_of_ble_eq_true rfl) ⟨Nat.zero_le _, Nat.zero_le _⟩ ?_
        refine lv_iload_n hx hb dX2_outer_16 rfl (lv_at hl 3 rfl) ?_
        refine lv_icmp_ne (tgt := 22) hx hb dX2_outer_17 (by decide) (fun c_26 => ?_) (fun c_26 => ?_)
        · refine lv_iinc (v := (5 : Int32)) (lv' := [(3, .int (5 : Int32)), (2, .int (2 : Int32)), (0, .ref (b 0)), (1, .int p0)]) hx hb dX2_outer_22 hl (k := 0) rfl (by first | rfl | decide) (Nat.le_of_ble_eq_true rfl) rfl (fun ls hl => ?_)
          refine lv_goto (tgt := 4) hx hb dX2_outer_25 (by decide) ?_
          refine lv_iload_n hx hb dX2_outer_4 rfl (lv_at hl 0 rfl) ?_
          refine lv_bipush (v := (6 : Int32)) hx hb dX2_outer_5 qb_6 ?_
          refine lv_icmp_ge (tgt := 28) hx hb dX2_outer_7 (by decide) (fun c_x => absurd c_x (by decide)) (fun _ => ?_)
          refine lv_aload_n hx hb dX2_outer_10 rfl (lv_at hl 2 rfl) ?_
          refine lv_iload_n hx hb dX2_outer_11 rfl (lv_at hl 0 rfl) ?_
          refine lv_iload_n hx hb dX2_outer_12 rfl (lv_at hl 1 rfl) ?_
          refine rcVi (as := [.int (5 : Int32), .int (2 : Int32)]) (rest := []) (cl := RX2) C (c_X2_order l G b T (5 : Int32) (2 : Int32) (vp_in_lit 5) (vp_in_lit 2) hT) F_X2_order rfl bw1561 bw1563 bw48 hE hP (rv4 hE.K hP (q0 := 0) rfl) hl.1 dX2_outer_13 ⟨Nat.le_of_ble_eq_true rfl, Nat.le_of_ble_eq_true rfl⟩ rfl (Nat.le_of_ble_eq_true rfl) ⟨Nat.zero_le _, Nat.zero_le _⟩ ?_
          refine lv_iload_n hx hb dX2_outer_16 rfl (lv_at hl 3 rfl) ?_
          refine lv_icmp_ne (tgt := 22) hx hb dX2_outer_17 (by decide) (fun c_27 => ?_) (fun c_27 => ?_)
          · refine lv_iinc (v := (6 : Int32)) (lv' := [(3, .int (6 : Int32)), (2, .int (2 : Int32)), (0, .ref (b 0)), (1, .int p0)]) hx hb dX2_outer_22 hl (k := 0) rfl (by first | rfl | decide) (Nat.le_of_ble_eq_true rfl) rfl (fun ls hl => ?_)
            refine lv_goto (tgt := 4) hx hb dX2_outer_25 (by decide) ?_
            refine lv_iload_n hx hb dX2_outer_4 rfl (lv_at hl 0 rfl) ?_
            refine lv_bipush (v := (6 : Int32)) hx hb dX2_outer_5 qb_6 ?_
            refine lv_icmp_ge (tgt := 28) hx hb dX2_outer_7 (by decide) (fun _ => ?_) (fun c_x => absurd (show (6 : Int32) ≤ (6 : Int32) from by decide) c_x)
            refine lv_iload_n hx hb dX2_outer_28 rfl (lv_at hl 1 rfl) ?_
            exact re_i hx hb hr hk dX2_outer_29 (ei (Eq.trans (if_pos c_1) (Eq.trans (if_pos c_17) (Eq.trans (if_neg c_25) (Eq.trans (if_neg c_26) (if_neg c_27))))))
          · refine lv_iload_n hx hb dX2_outer_20 rfl (lv_at hl 0 rfl) ?_
            refine lv_istore_n (lv' := [(2, .int (5 : Int32)), (3, .int (5 : Int32)), (0, .ref (b 0)), (1, .int p0)]) hx hb dX2_outer_21 rfl hl (Nat.le_of_ble_eq_true rfl) rfl (fun ls hl => ?_)
            refine lv_iinc (v := (6 : Int32)) (lv' := [(3, .int (6 : Int32)), (2, .int (5 : Int32)), (0, .ref (b 0)), (1, .int p0)]) hx hb dX2_outer_22 hl (k := 1) rfl (by first | rfl | decide) (Nat.le_of_ble_eq_true rfl) rfl (fun ls hl => ?_)
            refine lv_goto (tgt := 4) hx hb dX2_outer_25 (by decide) ?_
            refine lv_iload_n hx hb dX2_outer_4 rfl (lv_at hl 0 rfl) ?_
            refine lv_bipush (v := (6 : Int32)) hx hb dX2_outer_5 qb_6 ?_
            refine lv_icmp_ge (tgt := 28) hx hb dX2_outer_7 (by decide) (fun _ => ?_) (fun c_x => absurd (show (6 : Int32) ≤ (6 : Int32) from by decide) c_x)
            refine lv_iload_n hx hb dX2_outer_28 rfl (lv_at hl 1 rfl) ?_
            exact re_i hx hb hr hk dX2_outer_29 (ei (Eq.trans (if_pos c_1) (Eq.trans (if_pos c_17) (Eq.trans (if_neg c_25) (Eq.trans (if_neg c_26) (if_pos c_27))))))
        · refine lv_iload_n hx hb dX2_outer_20 rfl (lv_at hl 0 rfl) ?_
          refine lv_istore_n (lv' := [(2, .int (4 : Int32)), (3, .int (4 : Int32)), (0, .ref (b 0)), (1, .int p0)]) hx hb dX2_outer_21 rfl hl (Nat.le_of_ble_eq_true rfl) rfl (fun ls hl => ?_)
          refine lv_iinc (v := (5 : Int32)) (lv' := [(3, .int (5 : Int32)), (2, .int (4 : Int32)), (0, .ref (b 0)), (1, .int p0)]) hx hb dX2_outer_22 hl (k := 1) rfl (by first | rfl | decide) (Nat.le_of_ble_eq_true rfl) rfl (fun ls hl => ?_)
          refine lv_goto (tgt := 4) hx hb dX2_outer_25 (by decide) ?_
          refine lv_iload_n hx hb dX2_outer_4 rfl (lv_at hl 0 rfl) ?_
          refine lv_bipush (v := (6 : Int32)) hx hb dX2_outer_5 qb_6 ?_
          refine lv_icmp_ge (tgt := 28) hx hb dX2_outer_7 (by decide) (fun c_x => absurd c_x (by decide)) (fun _ => ?_)
          refine lv_aload_n hx hb dX2_outer_10 rfl (lv_at hl 2 rfl) ?_
          refine lv_iload_n hx hb dX2_outer_11 rfl (lv_at hl 0 rfl) ?_
          refine lv_iload_n hx hb dX2_outer_12 rfl (lv_at hl 1 rfl) ?_
          refine rcVi (as := [.int (5 : Int32), .int (4 : Int32)]) (rest := []) (cl := RX2) C (c_X2_order l G b T (5 : Int32) (4 : Int32) (vp_in_lit 5) (vp_in_lit 4) hT) F_X2_order rfl bw1561 bw1563 bw48 hE hP (rv4 hE.K hP (q0 := 0) rfl) hl.1 dX2_outer_13 ⟨Nat.le_of_ble_eq_true rfl, Nat.le_of_ble_eq_true rfl⟩ rfl (Nat.le_of_ble_eq_true rfl) ⟨Nat.zero_le _, Nat.zero_le _⟩ ?_
          refine lv_iload_n hx hb dX2_outer_16 rfl (lv_at hl 3 rfl) ?_
          refine lv_icmp_ne (tgt := 22) hx hb dX2_outer_17 (by decide) (fun c_28 => ?_) (fun c_28 => ?_)
          · refine lv_iinc (v := (6 : Int32)) (lv' := [(3, .int (6 : Int32)), (2, .int (4 : Int32)), (0, .ref (b 0)), (1, .int p0)]) hx hb dX2_outer_22 hl (k := 0) rfl (by first | rfl | decide) (Nat.le_of_ble_eq_true rfl) rfl (fun ls hl => ?_)
            refine lv_goto (tgt := 4) hx hb dX2_outer_25 (by decide) ?_
            refine lv_iload_n hx hb dX2_outer_4 rfl (lv_at hl 0 rfl) ?_
            refine lv_bipush (v := (6 : Int32)) hx hb dX2_outer_5 qb_6 ?_
            refine lv_icmp_ge (tgt := 28) hx hb dX2_outer_7 (by decide) (fun _ => ?_) (fun c_x => absurd (show (6 : Int32) ≤ (6 : Int32) from by decide) c_x)
            refine lv_iload_n hx hb dX2_outer_28 rfl (lv_at hl 1 rfl) ?_
            exact re_i hx hb hr hk dX2_outer_29 (ei (Eq.trans (if_pos c_1) (Eq.trans (if_pos c_17) (Eq.trans (if_neg c_25) (Eq.trans (if_pos c_26) (if_neg c_28))))))
          · refine lv_iload_n hx hb dX2_outer_20 rfl (lv_at hl 0 rfl) ?_
            refine lv_istore_n (lv' := [(2, .int (5 : Int32)), (3, .int (5 : Int32)), (0, .ref (b 0)), (1, .int p0)]) hx hb dX2_outer_21 rfl hl (Nat.le_of_ble_eq_true rfl) rfl (fun ls hl => ?_)
            refine lv_iinc (v := (6 : Int32)) (lv' := [(3, .int (6 : Int32)), (2, .int (5 : Int32)), (0, .ref (b 0)), (1, .int p0)]) hx hb dX2_outer_22 hl (k := 1) rfl (by first | rfl | decide) (Nat.le_of_ble_eq_true rfl) rfl (fun ls hl => ?_)
            refine lv_goto (tgt := 4) hx hb dX2_outer_25 (by decide) ?_
            refine lv_iload_n hx hb dX2_outer_4 rfl (lv_at hl 0 rfl) ?_
            refine lv_bipush (v := (6 : Int32)) hx hb dX2_outer_5 qb_6 ?_
            refine lv_icmp_ge (tgt := 28) hx hb dX2_outer_7 (by decide) (fun _ => ?_) (fun c_x => absurd (show (6 : Int32) ≤ (6 : Int32) from by decide) c_x)
            refine lv_iload_n hx hb dX2_outer_28 rfl (lv_at hl 1 rfl) ?_
            exact re_i hx hb hr hk dX2_outer_29 (ei (Eq.trans (if_pos c_1) (Eq.trans (if_pos c_17) (Eq.trans (if_neg c_25) (Eq.trans (if_pos c_26) (if_pos c_28))))))
      · refine lv_iload_n hx hb dX2_outer_20 rfl (lv_at hl 0 rfl) ?_
        refine lv_istore_n (lv' := [(2, .int (3 : Int32)), (3, .int (3 : Int32)), (0, .ref (b 0)), (1, .int p0)]) hx hb dX2_outer_21 rfl hl (Nat.le_of_ble_eq_true rfl) rfl (fun ls hl => ?_)
        refine lv_iinc (v := (4 : Int32)) (lv' := [(3, .int (4 : Int32)), (2, .int (3 : Int32)), (0, .ref (b 0)), (1, .int p0)]) hx hb dX2_outer_22 hl (k := 1) rfl (by first | rfl | decide) (Nat.le_of_ble_eq_true rfl) rfl (fun ls hl => ?_)
        refine lv_goto (tgt := 4) hx hb dX2_outer_25 (by decide) ?_
        refine lv_iload_n hx hb dX2_outer_4 rfl (lv_at hl 0 rfl) ?_
        refine lv_bipush (v := (6 : Int32)) hx hb dX2_outer_5 qb_6 ?_
        refine lv_icmp_ge (tgt := 28) hx hb dX2_outer_7 (by decide) (fun c_x => absurd c_x (by decide)) (fun _ => ?_)
        refine lv_aload_n hx hb dX2_outer_10 rfl (lv_at hl 2 rfl) ?_
        refine lv_iload_n hx hb dX2_outer_11 rfl (lv_at hl 0 rfl) ?_
        refine lv_iload_n hx hb dX2_outer_12 rfl (lv_at hl 1 rfl) ?_
        refine rcVi (as := [.int (4 : Int32), .int (3 : Int32)]) (rest := []) (cl := RX2) C (c_X2_order l G b T (4 : Int32) (3 : Int32) (vp_in_lit 4) (vp_in_lit 3) hT) F_X2_order rfl bw1561 bw1563 bw48 hE hP (rv4 hE.K hP (q0 := 0) rfl) hl.1 dX2_outer_13 ⟨Nat.le_of_ble_eq_true rfl, Nat.le_of_ble_eq_true rfl⟩ rfl (Nat.le_of_ble_eq_true rfl) ⟨Nat.zero_le _, Nat.zero_le _⟩ ?_
        refine lv_iload_n hx hb dX2_outer_16 rfl (lv_at hl 3 rfl) ?_
        refine lv_icmp_ne (tgt := 22) hx hb dX2_outer_17 (by decide) (fun c_29 => ?_) (fun c_29 => ?_)
        · refine lv_iinc (v := (5 : Int32)) (lv' := [(3, .int (5 : Int32)), (2, .int (3 : Int32)), (0, .ref (b 0)), (1, .int p0)]) hx hb dX2_outer_22 hl (k := 0) rfl (by first | rfl | decide) (Nat.le_of_ble_eq_true rfl) rfl (fun ls hl => ?_)
          refine lv_goto (tgt := 4) hx hb dX2_outer_25 (by decide) ?_
          refine lv_iload_n hx hb dX2_outer_4 rfl (lv_at hl 0 rfl) ?_
          refine lv_bipush (v := (6 : Int32)) hx hb dX2_outer_5 qb_6 ?_
          refine lv_icmp_ge (tgt := 28) hx hb dX2_outer_7 (by decide) (fun c_x => absurd c_x (by decide)) (fun _ => ?_)
          refine lv_aload_n hx hb dX2_outer_10 rfl (lv_at hl 2 rfl) ?_
          refine lv_iload_n hx hb dX2_outer_11 rfl (lv_at hl 0 rfl) ?_
          refine lv_iload_n hx hb dX2_outer_12 rfl (lv_at hl 1 rfl) ?_
          refine rcVi (as := [.int (5 : Int32), .int (3 : Int32)]) (rest := []) (cl := RX2) C (c_X2_order l G b T (5 : Int32) (3 : Int32) (vp_in_lit 5) (vp_in_lit 3) hT) F_X2_order rfl bw1561 bw1563 bw48 hE hP (rv4 hE.K hP (q0 := 0) rfl) hl.1 dX2_outer_13 ⟨Nat.le_of_ble_eq_true rfl, Nat.le_of_ble_eq_true rfl⟩ rfl (Nat.le_of_ble_eq_true rfl) ⟨Nat.zero_le _, Nat.zero_le _⟩ ?_
          refine lv_iload_n hx hb dX2_outer_16 rfl (lv_at hl 3 rfl) ?_
          refine lv_icmp_ne (tgt := 22) hx hb dX2_outer_17 (by decide) (fun c_30 => ?_) (fun c_30 => ?_)
          · refine lv_iinc (v := (6 : Int32)) (lv' := [(3, .int (6 : Int32)), (2, .int (3 : Int32)), (0, .ref (b 0)), (1, .int p0)]) hx hb dX2_outer_22 hl (k := 0) rfl (by first | rfl | decide) (Nat.le_of_ble_eq_true rfl) rfl (fun ls hl => ?_)
            refine lv_goto (tgt := 4) hx hb dX2_outer_25 (by decide) ?_
            refine lv_iload_n hx hb dX2_outer_4 rfl (lv_at hl 0 rfl) ?_
            refine lv_bipush (v := (6 : Int32)) hx hb dX2_outer_5 qb_6 ?_
            refine lv_icmp_ge (tgt := 28) hx hb dX2_outer_7 (by decide) (fun _ => ?_) (fun c_x => absurd (show (6 : Int32) ≤ (6 : Int32) from by decide) c_x)
            refine lv_iload_n hx hb dX2_outer_28 rfl (lv_at hl 1 rfl) ?_
            exact re_i hx hb hr hk dX2_outer_29 (ei (Eq.trans (if_pos c_1) (Eq.trans (if_pos c_17) (Eq.trans (if_pos c_25) (Eq.trans (if_neg c_29) (if_neg c_30))))))
          · refine lv_iload_n hx hb dX2_outer_20 rfl (lv_at hl 0 rfl) ?_
            refine lv_istore_n (lv' := [(2, .int (5 : Int32)), (3, .int (5 : Int32)), (0, .ref (b 0)), (1, .int p0)]) hx hb dX2_outer_21 rfl hl (Nat.le_of_ble_eq_true rfl) rfl (fun ls hl => ?_)
            refine lv_iinc (v := (6 : Int32)) (lv' := [(3, .int (6 : Int32)), (2, .int (5 : Int32)), (0, .ref (b 0)), (1, .int p0)]) hx hb dX2_outer_22 hl (k := 1) rfl (by first | rfl | decide) (Nat.le_of_ble_eq_true rfl) rfl (fun ls hl => ?_)
            refine lv_goto (tgt := 4) hx hb dX2_outer_25 (by decide) ?_
            refine lv_iload_n hx hb dX2_outer_4 rfl (lv_at hl 0 rfl) ?_
            refine lv_bipush (v := (6 : Int32)) hx hb dX2_outer_5 qb_6 ?_
            refine lv_icmp_ge (tgt := 28) hx hb dX2_outer_7 (by decide) (fun _ => ?_) (fun c_x => absurd (show (6 : Int32) ≤ (6 : Int32) from by decide) c_x)
            refine lv_iload_n hx hb dX2_outer_28 rfl (lv_at hl 1 rfl) ?_
            exact re_i hx hb hr hk dX2_outer_29 (ei (Eq.trans (if_pos c_1) (Eq.trans (if_pos c_17) (Eq.trans (if_pos c_25) (Eq.trans (if_neg c_29) (if_pos c_30))))))
        · refine lv_iload_n hx hb dX2_outer_20 rfl (lv_at hl 0 rfl) ?_
          refine lv_istore_n (lv' := [(2, .int (4 : Int32)), (3, .int (4 : Int32)), (0, .ref (b 0)), (1, .int p0)]) hx hb dX2_outer_21 rfl hl (Nat.le_of_ble_eq_true rfl) rfl (fun ls hl => ?_)
          refine lv_iinc (v := (5 : Int32)) (lv' := [(3, .int (5 : Int32)), (2, .int (4 : Int32)), (0, .ref (b 0)), (1, .int p0)]) hx hb dX2_outer_22 hl (k := 1) rfl (by first | rfl | decide) (Nat.le_of_ble_eq_true rfl) rfl (fun ls hl => ?_)
          refine lv_goto (tgt := 4) hx hb dX2_outer_25 (by decide) ?_
          refine lv_iload_n hx hb dX2_outer_4 rfl (lv_at hl 0 rfl) ?_
          refine lv_bipush (v := (6 : Int32)) hx hb dX2_outer_5 qb_6 ?_
          refine lv_icmp_ge (tgt := 28) hx hb dX2_outer_7 (by decide) (fun c_x => absurd c_x (by decide)) (fun _ => ?_)
          refine lv_aload_n hx hb dX2_outer_10 rfl (lv_at hl 2 rfl) ?_
          refine lv_iload_n hx hb dX2_outer_11 rfl (lv_at hl 0 rfl) ?_
          refine lv_iload_n hx hb dX2_outer_12 rfl (lv_at hl 1 rfl) ?_
          refine rcVi (as := [.int (5 : Int32), .int (4 : Int32)]) (rest := []) (cl := RX2) C (c_X2_order l G b T (5 : Int32) (4 : Int32) (vp_in_lit 5) (vp_in_lit 4) hT) F_X2_order rfl bw1561 bw1563 bw48 hE hP (rv4 hE.K hP (q0 := 0) rfl) hl.1 dX2_outer_13 ⟨Nat.le_of_ble_eq_true rfl, Nat.le_of_ble_eq_true rfl⟩ rfl (Nat.le_of_ble_eq_true rfl) ⟨Nat.zero_le _, Nat.zero_le _⟩ ?_
          refine lv_iload_n hx hb dX2_outer_16 rfl (lv_at hl 3 rfl) ?_
          refine lv_icmp_ne (tgt := 22) hx hb dX2_outer_17 (by decide) (fun c_31 => ?_) (fun c_31 => ?_)
          · refine lv_iinc (v := (6 : Int32)) (lv' := [(3, .int (6 : Int32)), (2, .int (4 : Int32)), (0, .ref (b 0)), (1, .int p0)]) hx hb dX2_outer_22 hl (k := 0) rfl (by first | rfl | decide) (Nat.le_of_ble_eq_true rfl) rfl (fun ls hl => ?_)
            refine lv_goto (tgt := 4) hx hb dX2_outer_25 (by decide) ?_
            refine lv_iload_n hx hb dX2_outer_4 rfl (lv_at hl 0 rfl) ?_
            refine lv_bipush (v := (6 : Int32)) hx hb dX2_outer_5 qb_6 ?_
            refine lv_icmp_ge (tgt := 28) hx hb dX2_outer_7 (by decide) (fun _ => ?_) (fun c_x => absurd (show (6 : Int32) ≤ (6 : Int32) from by decide) c_x)
            refine lv_iload_n hx hb dX2_outer_28 rfl (lv_at hl 1 rfl) ?_
            exact re_i hx hb hr hk dX2_outer_29 (ei (Eq.trans (if_pos c_1) (Eq.trans (if_pos c_17) (Eq.trans (if_pos c_25) (Eq.trans (if_pos c_29) (if_neg c_31))))))
          · refine lv_iload_n hx hb dX2_outer_20 rfl (lv_at hl 0 rfl) ?_
            refine lv_istore_n (lv' := [(2, .int (5 : Int32)), (3, .int (5 : Int32)), (0, .ref (b 0)), (1, .int p0)]) hx hb dX2_outer_21 rfl hl (Nat.le_of_ble_eq_true rfl) rfl (fun ls hl => ?_)
            refine lv_iinc (v := (6 : Int32)) (lv' := [(3, .int (6 : Int32)), (2, .int (5 : Int32)), (0, .ref (b 0)), (1, .int p0)]) hx hb dX2_outer_22 hl (k := 1) rfl (by first | rfl | decide) (Nat.le_of_ble_eq_true rfl) rfl (fun ls hl => ?_)
            refine lv_goto (tgt := 4) hx hb dX2_outer_25 (by decide) ?_
            refine lv_iload_n hx hb dX2_outer_4 rfl (lv_at hl 0 rfl) ?_
            refine lv_bipush (v := (6 : Int32)) hx hb dX2_outer_5 qb_6 ?_
            refine lv_icmp_ge (tgt := 28) hx hb dX2_outer_7 (by decide) (fun _ => ?_) (fun c_x => absurd (show (6 : Int32) ≤ (6 : Int32) from by decide) c_x)
            refine lv_iload_n hx hb dX2_outer_28 rfl (lv_at hl 1 rfl) ?_
            exact re_i hx hb hr hk dX2_outer_29 (ei (Eq.trans (if_pos c_1) (Eq.trans (if_pos c_17) (Eq.trans (if_pos c_25) (Eq.trans (if_pos c_29) (if_pos c_31))))))

set_option maxRecDepth 100000 in
set_option maxHeartbeats 4000000 in
theorem c_X2_houseNow (l : Launch) (G : GT) (b : Nat → Nat) (T : SM) (p0 : Int32) (hT : MO T) : RO l G yX2_houseNow cX2_houseNow 2 (some .int) 8 [.ref (b 0), .int p0] (wM G b T) (some (.int (fX2_houseNow T p0))) := by
  refine RO.ofW (own := RX2) rfl (plainFor_of_name pnN_RX2) (Nat.le_of_ble_eq_true rfl) ?_
  intro p e s m below meth c C hr hk hE hP ls hl
  have hx := C.1
  have hb := C.2.1
  have hown := C.2.2.2.1
  have hw := C.2.2.2.2
  have hl : lv_has ls 2 [(0, .ref (b 0)), (1, .int p0)] := hl
  refine lv_iload_n hx hb dX2_houseNow_0 rfl (lv_at hl 1 rfl) ?_
  by_cases c_1 : p0 = (0 : Int32)
  · refine lv_tableIn (tgt := 36) (off := 35) hx hb dX2_houseNow_1 (by rw [c_1]; decide) (by rw [c_1]; decide) (by rw [c_1]; decide) (by decide) ?_
    refine lv_aload_n hx hb dX2_houseNow_36 rfl (lv_at hl 0 rfl) ?_
    refine va_get (D := gD G) (cl := vwCl) (tys := gT G) (ci := 4) (v := .int (mi T 4)) (C := RX2) (T := TX2) (N := 12) hx hb hw inB_X2 hown hE.K hP 0 rfl rfl 9 (by decide) (hw _ bw1172) (fun _ h9 => h9) rfl dX2_houseNow_37 ?_
    exact re_i hx hb hr hk dX2_houseNow_40 (ei (if_pos c_1))
  by_cases c_2 : p0 = (1 : Int32)
  · refine lv_tableIn (tgt := 41) (off := 40) hx hb dX2_houseNow_1 (by rw [c_2]; decide) (by rw [c_2]; decide) (by rw [c_2]; decide) (by decide) ?_
    refine lv_aload_n hx hb dX2_houseNow_41 rfl (lv_at hl 0 rfl) ?_
    refine va_get (D := gD G) (cl := vwCl) (tys := gT G) (ci := 4) (v := .int (mi T 5)) (C := RX2) (T := TX2) (N := 12) hx hb hw inB_X2 hown hE.K hP 0 rfl rfl 10 (by decide) (hw _ bw1173) (fun _ h9 => h9) rfl dX2_houseNow_42 ?_
    exact re_i hx hb hr hk dX2_houseNow_45 (ei (Eq.trans (if_neg c_1) (if_pos c_2)))
  by_cases c_3 : p0 = (2 : Int32)
  · refine lv_tableIn (tgt := 46) (off := 45) hx hb dX2_houseNow_1 (by rw [c_3]; decide) (by rw [c_3]; decide) (by rw [c_3]; decide) (by decide) ?_
    refine lv_aload_n hx hb dX2_houseNow_46 rfl (lv_at hl 0 rfl) ?_
    refine rcVi (as := []) (rest := []) (cl := RX2) C (c_X2_likeOnes l G b T hT) F_X2_likeOnes rfl bw1608 bw1610 bw54 hE hP (rv4 hE.K hP (q0 := 0) rfl) hl.1 dX2_houseNow_47 ⟨Nat.le_of_ble_eq_true rfl, Nat.le_of_ble_eq_true rfl⟩ rfl (Nat.le_of_ble_eq_true rfl) ⟨Nat.zero_le _, Nat.zero_le _⟩ ?_
    exact re_i hx hb hr hk dX2_houseNow_50 (ei (Eq.trans (if_neg c_1) (Eq.trans (if_neg c_2) (if_pos c_3))))
  by_cases c_4 : p0 = (3 : Int32)
  · refine lv_tableIn (tgt := 51) (off := 50) hx hb dX2_houseNow_1 (by rw [c_4]; decide) (by rw [c_4]; decide) (by rw [c_4]; decide) (by decide) ?_
    refine lv_aload_n hx hb dX2_houseNow_51 rfl (lv_at hl 0 rfl) ?_
    refine lv_iconst (v := (-1 : Int32)) hx hb dX2_houseNow_52 qi_m1 ?_
    refine rcVi (as := [.int (-1 : Int32)]) (rest := []) (cl := RX2) C (c_X2_outer l G b T (-1 : Int32) hT) F_X2_outer rfl bw1612 bw1614 bw55 hE hP (rv4 hE.K hP (q0 := 0) rfl) hl.1 dX2_houseNow_53 ⟨Nat.le_of_ble_eq_true rfl, Nat.le_of_ble_eq_true rfl⟩ rfl (Nat.le_of_ble_eq_true rfl) ⟨Nat.zero_le _, Nat.zero_le _⟩ ?_
    exact re_i hx hb hr hk dX2_houseNow_56 (ei (Eq.trans (if_neg c_1) (Eq.trans (if_neg c_2) (Eq.trans (if_neg c_3) (if_pos c_4)))))
  by_cases c_5 : p0 = (4 : Int32)
  · refine lv_tableIn (tgt := 57) (off := 56) hx hb dX2_houseNow_1 (by rw [c_5]; decide) (by rw [c_5]; decide) (by rw [c_5]; decide) (by decide) ?_
    refine lv_aload_n hx hb dX2_houseNow_57 rfl (lv_at hl 0 rfl) ?_
    refine lv_iconst (v := (1 : Int32)) hx hb dX2_houseNow_58 qi_1 ?_
    refine rcVi (as := [.int (1 : Int32)]) (rest := []) (cl := RX2) C (c_X2_outer l G b T (1 : Int32) hT) F_X2_outer rfl bw1612 bw1614 bw55 hE hP (rv4 hE.K hP (q0 := 0) rfl) hl.1 dX2_houseNow_59 ⟨Nat.le_of_ble_eq_true rfl, Nat.le_of_ble_eq_true rfl⟩ rfl (Nat.le_of_ble_eq_true rfl) ⟨Nat.zero_le _, Nat.zero_le _⟩ ?_
    exact re_i hx hb hr hk dX2_houseNow_62 (ei (Eq.trans (if_neg c_1) (Eq.trans (if_neg c_2) (Eq.trans (if_neg c_3) (Eq.trans (if_neg c_4) (if_pos c_5))))))
  have nc_1 := lv_neT c_1 (a := 0) (by decide)
  have nc_2 := lv_neT c_2 (a := 1) (by decide)
  have nc_3 := lv_neT c_3 (a := 2) (by decide)
  have nc_4 := lv_neT c_4 (a := 3) (by decide)
  have nc_5 := lv_neT c_5 (a := 4) (by decide)
  refine lv_tableOut (tgt := 63) hx hb dX2_houseNow_1 (by omega) (by decide) ?_
  refine lv_aload_n hx hb dX2_houseNow_63 rfl (lv_at hl 0 rfl) ?_
  refine va_get (D := gD G) (cl := vwCl) (tys := gT G) (ci := 4) (v := .int (mi T 6)) (C := RX2) (T := TX2) (N := 12) hx hb hw inB_X2 hown hE.K hP 0 rfl rfl 11 (by decide) (hw _ bw1174) (fun _ h9 => h9) rfl dX2_houseNow_64 ?_
  exact re_i hx hb hr hk dX2_houseNow_67 (ei (Eq.trans (if_neg c_1) (Eq.trans (if_neg c_2) (Eq.trans (if_neg c_3) (Eq.trans (if_neg c_4) (if_neg c_5))))))

set_option maxRecDepth 100000 in
set_option maxHeartbeats 4000000 in
theorem c_X2_thrown (l : Launch) (G : GT) (b : Nat → Nat) (T : SM) : RO l G yX2_thrown cX2_thrown 1 (some .int) 1 [.ref (b 0)] (wM G b T) (some (.int (fX2_thrown T))) := by
  refine RO.ofW (own := RX2) rfl (plainFor_of_name pnN_RX2) (Nat.le_of_ble_eq_true rfl) ?_
  intro p e s m below meth c C hr hk hE hP ls hl
  have hx := C.1
  have hb := C.2.1
  have hown := C.2.2.2.1
  have hw := C.2.2.2.2
  have hl : lv_has ls 1 [(0, .ref (b 0))] := hl
  refine lv_aload_n hx hb dX2_thrown_0 rfl (lv_at hl 0 rfl) ?_
  refine va_get (D := gD G) (cl := vwCl) (tys := gT G) (ci := 4) (v := .int (mth T)) (C := RX2) (T := TX2) (N := 12) hx hb hw inB_X2 hown hE.K hP 0 rfl rfl 0 (by decide) (hw _ bw1163) (fun _ h9 => h9) rfl dX2_thrown_1 ?_
  exact re_i hx hb hr hk dX2_thrown_4 (ei rfl)

set_option maxRecDepth 100000 in
set_option maxHeartbeats 4000000 in
theorem c_X0_year (l : Launch) (G : GT) (a : Nat → Nat) (S : SX) (p0 : Int32) (h0 : vp_in p0 6) : RO l G yX0_year cX0_year 2 (some .int) 2 [.ref (a 0), .int p0] (wX G a S) (some (.int (fX0_year S p0))) := by
  refine RO.ofW (own := RX0) rfl (plainFor_of_name pnN_RX0) (Nat.le_of_ble_eq_true rfl) ?_
  intro p e s m below meth c C hr hk hE hP ls hl
  have hx := C.1
  have hb := C.2.1
  have hown := C.2.2.2.1
  have hw := C.2.2.2.2
  have hl : lv_has ls 2 [(0, .ref (a 0)), (1, .int p0)] := hl
  refine lv_iload_n hx hb dX0_year_0 rfl (lv_at hl 1 rfl) ?_
  refine rcSv (as := [.int p0]) (rest := []) C (c_X0_checkMoment l G p0 h0) F_X0_checkMoment rfl bw387 bw388 hE vpn hl.1 dX0_year_1 ⟨Nat.le_of_ble_eq_true rfl, Nat.le_of_ble_eq_true rfl⟩ rfl (Nat.le_of_ble_eq_true rfl) ⟨Nat.zero_le _, Nat.zero_le _⟩ ?_
  refine lv_aload_n hx hb dX0_year_4 rfl (lv_at hl 0 rfl) ?_
  refine va_get (D := gD G) (cl := vwCl) (tys := gT G) (ci := 2) (v := .ref (a 1)) (C := RX0) (T := TX0) (N := 12) hx hb hw inB_X0 hown hE.K hP 0 rfl rfl 0 (by decide) (hw _ bw94) (fun _ h9 => h9) rfl dX0_year_5 ?_
  refine lv_iload_n hx hb dX0_year_8 rfl (lv_at hl 1 rfl) ?_
  refine va_iald (tys := gT G) hx hb hE.K hP 1 0 rfl rfl h0 dX0_year_9 ?_
  exact re_i hx hb hr hk dX0_year_10 (ei rfl)

set_option maxRecDepth 100000 in
set_option maxHeartbeats 4000000 in
theorem c_X0_month (l : Launch) (G : GT) (a : Nat → Nat) (S : SX) (p0 : Int32) (h0 : vp_in p0 6) : RO l G yX0_month cX0_month 2 (some .int) 2 [.ref (a 0), .int p0] (wX G a S) (some (.int (fX0_month S p0))) := by
  refine RO.ofW (own := RX0) rfl (plainFor_of_name pnN_RX0) (Nat.le_of_ble_eq_true rfl) ?_
  intro p e s m below meth c C hr hk hE hP ls hl
  have hx := C.1
  have hb := C.2.1
  have hown := C.2.2.2.1
  have hw := C.2.2.2.2
  have hl : lv_has ls 2 [(0, .ref (a 0)), (1, .int p0)] := hl
  refine lv_iload_n hx hb dX0_month_0 rfl (lv_at hl 1 rfl) ?_
  refine rcSv (as := [.int p0]) (rest := []) C (c_X0_checkMoment l G p0 h0) F_X0_checkMoment rfl bw387 bw388 hE vpn hl.1 dX0_month_1 ⟨Nat.le_of_ble_eq_true rfl, Nat.le_of_ble_eq_true rfl⟩ rfl (Nat.le_of_ble_eq_true rfl) ⟨Nat.zero_le _, Nat.zero_le _⟩ ?_
  refine lv_aload_n hx hb dX0_month_4 rfl (lv_at hl 0 rfl) ?_
  refine va_get (D := gD G) (cl := vwCl) (tys := gT G) (ci := 2) (v := .ref (a 2)) (C := RX0) (T := TX0) (N := 12) hx hb hw inB_X0 hown hE.K hP 0 rfl rfl 1 (by decide) (hw _ bw95) (fun _ h9 => h9) rfl dX0_month_5 ?_
  refine lv_iload_n hx hb dX0_month_8 rfl (lv_at hl 1 rfl) ?_
  refine va_iald (tys := gT G) hx hb hE.K hP 2 0 rfl rfl h0 dX0_month_9 ?_
  exact re_i hx hb hr hk dX0_month_10 (ei rfl)

set_option maxRecDepth 100000 in
set_option maxHeartbeats 4000000 in
theorem c_X0_dayOfMonth (l : Launch) (G : GT) (a : Nat → Nat) (S : SX) (p0 : Int32) (h0 : vp_in p0 6) : RO l G yX0_dayOfMonth cX0_dayOfMonth 2 (some .int) 2 [.ref (a 0), .int p0] (wX G a S) (some (.int (fX0_dayOfMonth S p0))) := by
  refine RO.ofW (own := RX0) rfl (plainFor_of_name pnN_RX0) (Nat.le_of_ble_eq_true rfl) ?_
  intro p e s m below meth c C hr hk hE hP ls hl
  have hx := C.1
  have hb := C.2.1
  have hown := C.2.2.2.1
  have hw := C.2.2.2.2
  have hl : lv_has ls 2 [(0, .ref (a 0)), (1, .int p0)] := hl
  refine lv_iload_n hx hb dX0_dayOfMonth_0 rfl (lv_at hl 1 rfl) ?_
  refine rcSv (as := [.int p0]) (rest := []) C (c_X0_checkMoment l G p0 h0) F_X0_checkMoment rfl bw387 bw388 hE vpn hl.1 dX0_dayOfMonth_1 ⟨Nat.le_of_ble_eq_true rfl, Nat.le_of_ble_eq_true rfl⟩ rfl (Nat.le_of_ble_eq_true rfl) ⟨Nat.zero_le _, Nat.zero_le _⟩ ?_
  refine lv_aload_n hx hb dX0_dayOfMonth_4 rfl (lv_at hl 0 rfl) ?_
  refine va_get (D := gD G) (cl := vwCl) (tys := gT G) (ci := 2) (v := .ref (a 3)) (C := RX0) (T := TX0) (N := 12) hx hb hw inB_X0 hown hE.K hP 0 rfl rfl 2 (by decide) (hw _ bw96) (fun _ h9 => h9) rfl dX0_dayOfMonth_5 ?_
  refine lv_iload_n hx hb dX0_dayOfMonth_8 rfl (lv_at hl 1 rfl) ?_
  refine va_iald (tys := gT G) hx hb hE.K hP 3 0 rfl rfl h0 dX0_dayOfMonth_9 ?_
  exact re_i hx hb hr hk dX0_dayOfMonth_10 (ei rfl)

set_option maxRecDepth 100000 in
set_option maxHeartbeats 4000000 in
theorem c_X0_dayOfYear (l : Launch) (G : GT) (a : Nat → Nat) (S : SX) (p0 : Int32) (h0 : vp_in p0 6) : RO l G yX0_dayOfYear cX0_dayOfYear 2 (some .int) 4 [.ref (a 0), .int p0] (wX G a S) (some (.int (fX0_dayOfYear S p0))) := by
  refine RO.ofW (own := RX0) rfl (plainFor_of_name pnN_RX0) (Nat.le_of_ble_eq_true rfl) ?_
  intro p e s m below meth c C hr hk hE hP ls hl
  have hx := C.1
  have hb := C.2.1
  have hown := C.2.2.2.1
  have hw := C.2.2.2.2
  have hl : lv_has ls 2 [(0, .ref (a 0)), (1, .int p0)] := hl
  refine lv_iload_n hx hb dX0_dayOfYear_0 rfl (lv_at hl 1 rfl) ?_
  refine rcSv (as := [.int p0]) (rest := []) C (c_X0_checkMoment l G p0 h0) F_X0_checkMoment rfl bw387 bw388 hE vpn hl.1 dX0_dayOfYear_1 ⟨Nat.le_of_ble_eq_true rfl, Nat.le_of_ble_eq_true rfl⟩ rfl (Nat.le_of_ble_eq_true rfl) ⟨Nat.zero_le _, Nat.zero_le _⟩ ?_
  refine lv_aload_n hx hb dX0_dayOfYear_4 rfl (lv_at hl 0 rfl) ?_
  refine lv_iload_n hx hb dX0_dayOfYear_5 rfl (lv_at hl 1 rfl) ?_
  refine rcVi (as := [.int p0]) (rest := []) (cl := RX0) C (c_X0_yearDay l G a S p0 h0) F_X0_yearDay rfl bw182 bw184 bw3 hE hP (rv2 hE.K hP (q0 := 0) rfl) hl.1 dX0_dayOfYear_6 ⟨Nat.le_of_ble_eq_true rfl, Nat.le_of_ble_eq_true rfl⟩ rfl (Nat.le_of_ble_eq_true rfl) ⟨Nat.zero_le _, Nat.zero_le _⟩ ?_
  exact re_i hx hb hr hk dX0_dayOfYear_9 (ei rfl)

set_option maxRecDepth 100000 in
set_option maxHeartbeats 4000000 in
theorem c_X0_dayOfWeek (l : Launch) (G : GT) (a : Nat → Nat) (S : SX) (p0 : Int32) (h0 : vp_in p0 6) : RO l G yX0_dayOfWeek cX0_dayOfWeek 2 (some .int) 3 [.ref (a 0), .int p0] (wX G a S) (some (.int (fX0_dayOfWeek S p0))) := by
  refine RO.ofW (own := RX0) rfl (plainFor_of_name pnN_RX0) (Nat.le_of_ble_eq_true rfl) ?_
  intro p e s m below meth c C hr hk hE hP ls hl
  have hx := C.1
  have hb := C.2.1
  have hown := C.2.2.2.1
  have hw := C.2.2.2.2
  have hl : lv_has ls 2 [(0, .ref (a 0)), (1, .int p0)] := hl
  refine lv_iload_n hx hb dX0_dayOfWeek_0 rfl (lv_at hl 1 rfl) ?_
  refine rcSv (as := [.int p0]) (rest := []) C (c_X0_checkMoment l G p0 h0) F_X0_checkMoment rfl bw387 bw388 hE vpn hl.1 dX0_dayOfWeek_1 ⟨Nat.le_of_ble_eq_true rfl, Nat.le_of_ble_eq_true rfl⟩ rfl (Nat.le_of_ble_eq_true rfl) ⟨Nat.zero_le _, Nat.zero_le _⟩ ?_
  refine lv_aload_n hx hb dX0_dayOfWeek_4 rfl (lv_at hl 0 rfl) ?_
  refine va_get (D := gD G) (cl := vwCl) (tys := gT G) (ci := 2) (v := .ref (a 4)) (C := RX0) (T := TX0) (N := 12) hx hb hw inB_X0 hown hE.K hP 0 rfl rfl 3 (by decide) (hw _ bw97) (fun _ h9 => h9) rfl dX0_dayOfWeek_5 ?_
  refine lv_iload_n hx hb dX0_dayOfWeek_8 rfl (lv_at hl 1 rfl) ?_
  refine va_lald (tys := gT G) hx hb hE.K hP 4 1 rfl rfl h0 dX0_dayOfWeek_9 ?_
  refine rcSi (as := [.long (xD S p0.toNatClampNeg)]) (rest := []) C (c_X0_weekday l G (xD S p0.toNatClampNeg)) F_X0_weekday rfl bw262 bw263 hE vpn hl.1 dX0_dayOfWeek_10 ⟨Nat.le_of_ble_eq_true rfl, Nat.le_of_ble_eq_true rfl⟩ rfl (Nat.le_of_ble_eq_true rfl) ⟨Nat.zero_le _, Nat.zero_le _⟩ ?_
  exact re_i hx hb hr hk dX0_dayOfWeek_13 (ei rfl)

set_option maxRecDepth 100000 in
set_option maxHeartbeats 4000000 in
theorem c_X0_hour (l : Launch) (G : GT) (a : Nat → Nat) (S : SX) (p0 : Int32) (h0 : vp_in p0 6) : RO l G yX0_hour cX0_hour 2 (some .int) 2 [.ref (a 0), .int p0] (wX G a S) (some (.int (fX0_hour S p0))) := by
  refine RO.ofW (own := RX0) rfl (plainFor_of_name pnN_RX0) (Nat.le_of_ble_eq_true rfl) ?_
  intro p e s m below meth c C hr hk hE hP ls hl
  have hx := C.1
  have hb := C.2.1
  have hown := C.2.2.2.1
  have hw := C.2.2.2.2
  have hl : lv_has ls 2 [(0, .ref (a 0)), (1, .int p0)] := hl
  refine lv_iload_n hx hb dX0_hour_0 rfl (lv_at hl 1 rfl) ?_
  refine rcSv (as := [.int p0]) (rest := []) C (c_X0_checkMoment l G p0 h0) F_X0_checkMoment rfl bw387 bw388 hE vpn hl.1 dX0_hour_1 ⟨Nat.le_of_ble_eq_true rfl, Nat.le_of_ble_eq_true rfl⟩ rfl (Nat.le_of_ble_eq_true rfl) ⟨Nat.zero_le _, Nat.zero_le _⟩ ?_
  refine lv_aload_n hx hb dX0_hour_4 rfl (lv_at hl 0 rfl) ?_
  refine va_get (D := gD G) (cl := vwCl) (tys := gT G) (ci := 2) (v := .ref (a 5)) (C := RX0) (T := TX0) (N := 12) hx hb hw inB_X0 hown hE.K hP 0 rfl rfl 4 (by decide) (hw _ bw98) (fun _ h9 => h9) rfl dX0_hour_5 ?_
  refine lv_iload_n hx hb dX0_hour_8 rfl (lv_at hl 1 rfl) ?_
  refine va_lald (tys := gT G) hx hb hE.K hP 5 1 rfl rfl h0 dX0_hour_9 ?_
  refine rcSi (as := [.long (xN S p0.toNatClampNeg)]) (rest := []) C (c_X0_hourOf l G (xN S p0.toNatClampNeg)) F_X0_hourOf rfl bw149 bw150 hE vpn hl.1 dX0_hour_10 ⟨Nat.le_of_ble_eq_true rfl, Nat.le_of_ble_eq_true rfl⟩ rfl (Nat.le_of_ble_eq_true rfl) ⟨Nat.zero_le _, Nat.zero_le _⟩ ?_
  exact re_i hx hb hr hk dX0_hour_13 (ei rfl)

set_option maxRecDepth 100000 in
set_option maxHeartbeats 4000000 in
theorem c_X0_minute (l : Launch) (G : GT) (a : Nat → Nat) (S : SX) (p0 : Int32) (h0 : vp_in p0 6) : RO l G yX0_minute cX0_minute 2 (some .int) 2 [.ref (a 0), .int p0] (wX G a S) (some (.int (fX0_minute S p0))) := by
  refine RO.ofW (own := RX0) rfl (plainFor_of_name pnN_RX0) (Nat.le_of_ble_eq_true rfl) ?_
  intro p e s m below meth c C hr hk hE hP ls hl
  have hx := C.1
  have hb := C.2.1
  have hown := C.2.2.2.1
  have hw := C.2.2.2.2
  have hl : lv_has ls 2 [(0, .ref (a 0)), (1, .int p0)] := hl
  refine lv_iload_n hx hb dX0_minute_0 rfl (lv_at hl 1 rfl) ?_
  refine rcSv (as := [.int p0]) (rest := []) C (c_X0_checkMoment l G p0 h0) F_X0_checkMoment rfl bw387 bw388 hE vpn hl.1 dX0_minute_1 ⟨Nat.le_of_ble_eq_true rfl, Nat.le_of_ble_eq_true rfl⟩ rfl (Nat.le_of_ble_eq_true rfl) ⟨Nat.zero_le _, Nat.zero_le _⟩ ?_
  refine lv_aload_n hx hb dX0_minute_4 rfl (lv_at hl 0 rfl) ?_
  refine va_get (D := gD G) (cl := vwCl) (tys := gT G) (ci := 2) (v := .ref (a 5)) (C := RX0) (T := TX0) (N := 12) hx hb hw inB_X0 hown hE.K hP 0 rfl rfl 4 (by decide) (hw _ bw98) (fun _ h9 => h9) rfl dX0_minute_5 ?_
  refine lv_iload_n hx hb dX0_minute_8 rfl (lv_at hl 1 rfl) ?_
  refine va_lald (tys := gT G) hx hb hE.K hP 5 1 rfl rfl h0 dX0_minute_9 ?_
  refine rcSi (as := [.long (xN S p0.toNatClampNeg)]) (rest := []) C (c_X0_minuteOf l G (xN S p0.toNatClampNeg)) F_X0_minuteOf rfl bw153 bw154 hE vpn hl.1 dX0_minute_10 ⟨Nat.le_of_ble_eq_true rfl, Nat.le_of_ble_eq_true rfl⟩ rfl (Nat.le_of_ble_eq_true rfl) ⟨Nat.zero_le _, Nat.zero_le _⟩ ?_
  exact re_i hx hb hr hk dX0_minute_13 (ei rfl)

set_option maxRecDepth 100000 in
set_option maxHeartbeats 4000000 in
theorem c_X0_second (l : Launch) (G : GT) (a : Nat → Nat) (S : SX) (p0 : Int32) (h0 : vp_in p0 6) : RO l G yX0_second cX0_second 2 (some .int) 2 [.ref (a 0), .int p0] (wX G a S) (some (.int (fX0_second S p0))) := by
  refine RO.ofW (own := RX0) rfl (plainFor_of_name pnN_RX0) (Nat.le_of_ble_eq_true rfl) ?_
  intro p e s m below meth c C hr hk hE hP ls hl
  have hx := C.1
  have hb := C.2.1
  have hown := C.2.2.2.1
  have hw := C.2.2.2.2
  have hl : lv_has ls 2 [(0, .ref (a 0)), (1, .int p0)] := hl
  refine lv_iload_n hx hb dX0_second_0 rfl (lv_at hl 1 rfl) ?_
  refine rcSv (as := [.int p0]) (rest := []) C (c_X0_checkMoment l G p0 h0) F_X0_checkMoment rfl bw387 bw388 hE vpn hl.1 dX0_second_1 ⟨Nat.le_of_ble_eq_true rfl, Nat.le_of_ble_eq_true rfl⟩ rfl (Nat.le_of_ble_eq_true rfl) ⟨Nat.zero_le _, Nat.zero_le _⟩ ?_
  refine lv_aload_n hx hb dX0_second_4 rfl (lv_at hl 0 rfl) ?_
  refine va_get (D := gD G) (cl := vwCl) (tys := gT G) (ci := 2) (v := .ref (a 5)) (C := RX0) (T := TX0) (N := 12) hx hb hw inB_X0 hown hE.K hP 0 rfl rfl 4 (by decide) (hw _ bw98) (fun _ h9 => h9) rfl dX0_second_5 ?_
  refine lv_iload_n hx hb dX0_second_8 rfl (lv_at hl 1 rfl) ?_
  refine va_lald (tys := gT G) hx hb hE.K hP 5 1 rfl rfl h0 dX0_second_9 ?_
  refine rcSi (as := [.long (xN S p0.toNatClampNeg)]) (rest := []) C (c_X0_secondOf l G (xN S p0.toNatClampNeg)) F_X0_secondOf rfl bw157 bw158 hE vpn hl.1 dX0_second_10 ⟨Nat.le_of_ble_eq_true rfl, Nat.le_of_ble_eq_true rfl⟩ rfl (Nat.le_of_ble_eq_true rfl) ⟨Nat.zero_le _, Nat.zero_le _⟩ ?_
  exact re_i hx hb hr hk dX0_second_13 (ei rfl)

set_option maxRecDepth 100000 in
set_option maxHeartbeats 4000000 in
theorem c_X0_nano (l : Launch) (G : GT) (a : Nat → Nat) (S : SX) (p0 : Int32) (h0 : vp_in p0 6) : RO l G yX0_nano cX0_nano 2 (some .int) 2 [.ref (a 0), .int p0] (wX G a S) (some (.int (fX0_nano S p0))) := by
  refine RO.ofW (own := RX0) rfl (plainFor_of_name pnN_RX0) (Nat.le_of_ble_eq_true rfl) ?_
  intro p e s m below meth c C hr hk hE hP ls hl
  have hx := C.1
  have hb := C.2.1
  have hown := C.2.2.2.1
  have hw := C.2.2.2.2
  have hl : lv_has ls 2 [(0, .ref (a 0)), (1, .int p0)] := hl
  refine lv_iload_n hx hb dX0_nano_0 rfl (lv_at hl 1 rfl) ?_
  refine rcSv (as := [.int p0]) (rest := []) C (c_X0_checkMoment l G p0 h0) F_X0_checkMoment rfl bw387 bw388 hE vpn hl.1 dX0_nano_1 ⟨Nat.le_of_ble_eq_true rfl, Nat.le_of_ble_eq_true rfl⟩ rfl (Nat.le_of_ble_eq_true rfl) ⟨Nat.zero_le _, Nat.zero_le _⟩ ?_
  refine lv_aload_n hx hb dX0_nano_4 rfl (lv_at hl 0 rfl) ?_
  refine va_get (D := gD G) (cl := vwCl) (tys := gT G) (ci := 2) (v := .ref (a 5)) (C := RX0) (T := TX0) (N := 12) hx hb hw inB_X0 hown hE.K hP 0 rfl rfl 4 (by decide) (hw _ bw98) (fun _ h9 => h9) rfl dX0_nano_5 ?_
  refine lv_iload_n hx hb dX0_nano_8 rfl (lv_at hl 1 rfl) ?_
  refine va_lald (tys := gT G) hx hb hE.K hP 5 1 rfl rfl h0 dX0_nano_9 ?_
  refine rcSi (as := [.long (xN S p0.toNatClampNeg)]) (rest := []) C (c_X0_nanoOfSecond l G (xN S p0.toNatClampNeg)) F_X0_nanoOfSecond rfl bw161 bw162 hE vpn hl.1 dX0_nano_10 ⟨Nat.le_of_ble_eq_true rfl, Nat.le_of_ble_eq_true rfl⟩ rfl (Nat.le_of_ble_eq_true rfl) ⟨Nat.zero_le _, Nat.zero_le _⟩ ?_
  exact re_i hx hb hr hk dX0_nano_13 (ei rfl)

set_option maxRecDepth 100000 in
set_option maxHeartbeats 4000000 in
theorem c_X0_day (l : Launch) (G : GT) (a : Nat → Nat) (S : SX) (p0 : Int32) (h0 : vp_in p0 6) : RO l G yX0_day cX0_day 2 (some .int) 2 [.ref (a 0), .int p0] (wX G a S) (some (.int (fX0_day S p0))) := by
  refine RO.ofW (own := RX0) rfl (plainFor_of_name pnN_RX0) (Nat.le_of_ble_eq_true rfl) ?_
  intro p e s m below meth c C hr hk hE hP ls hl
  have hx := C.1
  have hb := C.2.1
  have hown := C.2.2.2.1
  have hw := C.2.2.2.2
  have hl : lv_has ls 2 [(0, .ref (a 0)), (1, .int p0)] := hl
  refine lv_iload_n hx hb dX0_day_0 rfl (lv_at hl 1 rfl) ?_
  refine rcSv (as := [.int p0]) (rest := []) C (c_X0_checkMoment l G p0 h0) F_X0_checkMoment rfl bw387 bw388 hE vpn hl.1 dX0_day_1 ⟨Nat.le_of_ble_eq_true rfl, Nat.le_of_ble_eq_true rfl⟩ rfl (Nat.le_of_ble_eq_true rfl) ⟨Nat.zero_le _, Nat.zero_le _⟩ ?_
  refine lv_aload_n hx hb dX0_day_4 rfl (lv_at hl 0 rfl) ?_
  refine va_get (D := gD G) (cl := vwCl) (tys := gT G) (ci := 2) (v := .ref (a 4)) (C := RX0) (T := TX0) (N := 12) hx hb hw inB_X0 hown hE.K hP 0 rfl rfl 3 (by decide) (hw _ bw97) (fun _ h9 => h9) rfl dX0_day_5 ?_
  refine lv_iload_n hx hb dX0_day_8 rfl (lv_at hl 1 rfl) ?_
  refine va_lald (tys := gT G) hx hb hE.K hP 4 1 rfl rfl h0 dX0_day_9 ?_
  refine lv_l2i (v := ((xD S p0.toNatClampNeg).toInt32)) hx hb dX0_day_10 (by first | rfl | decide) ?_
  exact re_i hx hb hr hk dX0_day_11 (ei rfl)

set_option maxRecDepth 100000 in
set_option maxHeartbeats 4000000 in
theorem c_X0_secondOfDay (l : Launch) (G : GT) (a : Nat → Nat) (S : SX) (p0 : Int32) (h0 : vp_in p0 6) : RO l G yX0_secondOfDay cX0_secondOfDay 2 (some .int) 2 [.ref (a 0), .int p0] (wX G a S) (some (.int (fX0_secondOfDay S p0))) := by
  refine RO.ofW (own := RX0) rfl (plainFor_of_name pnN_RX0) (Nat.le_of_ble_eq_true rfl) ?_
  intro p e s m below meth c C hr hk hE hP ls hl
  have hx := C.1
  have hb := C.2.1
  have hown := C.2.2.2.1
  have hw := C.2.2.2.2
  have hl : lv_has ls 2 [(0, .ref (a 0)), (1, .int p0)] := hl
  refine lv_iload_n hx hb dX0_secondOfDay_0 rfl (lv_at hl 1 rfl) ?_
  refine rcSv (as := [.int p0]) (rest := []) C (c_X0_checkMoment l G p0 h0) F_X0_checkMoment rfl bw387 bw388 hE vpn hl.1 dX0_secondOfDay_1 ⟨Nat.le_of_ble_eq_true rfl, Nat.le_of_ble_eq_true rfl⟩ rfl (Nat.le_of_ble_eq_true rfl) ⟨Nat.zero_le _, Nat.zero_le _⟩ ?_
  refine lv_aload_n hx hb dX0_secondOfDay_4 rfl (lv_at hl 0 rfl) ?_
  refine va_get (D := gD G) (cl := vwCl) (tys := gT G) (ci := 2) (v := .ref (a 5)) (C := RX0) (T := TX0) (N := 12) hx hb hw inB_X0 hown hE.K hP 0 rfl rfl 4 (by decide) (hw _ bw98) (fun _ h9 => h9) rfl dX0_secondOfDay_5 ?_
  refine lv_iload_n hx hb dX0_secondOfDay_8 rfl (lv_at hl 1 rfl) ?_
  refine va_lald (tys := gT G) hx hb hE.K hP 5 1 rfl rfl h0 dX0_secondOfDay_9 ?_
  refine lv_ldc2 (v := (1000000000 : Int64)) hx hb hown (hw _ bw160) dX0_secondOfDay_10 ?_
  refine lv_ldiv hx hb dX0_secondOfDay_13 (by decide) ?_
  refine lv_l2i (v := (((xN S p0.toNatClampNeg) / (1000000000 : Int64)).toInt32)) hx hb dX0_secondOfDay_14 (by first | rfl | decide) ?_
  exact re_i hx hb hr hk dX0_secondOfDay_15 (ei rfl)

set_option maxRecDepth 100000 in
set_option maxHeartbeats 4000000 in
theorem c_X0_lengthOfMonth (l : Launch) (G : GT) (a : Nat → Nat) (S : SX) (p0 : Int32) (h0 : vp_in p0 6) : RO l G yX0_lengthOfMonth cX0_lengthOfMonth 2 (some .int) 3 [.ref (a 0), .int p0] (wX G a S) (some (.int (fX0_lengthOfMonth S p0))) := by
  refine RO.ofW (own := RX0) rfl (plainFor_of_name pnN_RX0) (Nat.le_of_ble_eq_true rfl) ?_
  intro p e s m below meth c C hr hk hE hP ls hl
  have hx := C.1
  have hb := C.2.1
  have hown := C.2.2.2.1
  have hw := C.2.2.2.2
  have hl : lv_has ls 2 [(0, .ref (a 0)), (1, .int p0)] := hl
  refine lv_iload_n hx hb dX0_lengthOfMonth_0 rfl (lv_at hl 1 rfl) ?_
  refine rcSv (as := [.int p0]) (rest := []) C (c_X0_checkMoment l G p0 h0) F_X0_checkMoment rfl bw387 bw388 hE vpn hl.1 dX0_lengthOfMonth_1 ⟨Nat.le_of_ble_eq_true rfl, Nat.le_of_ble_eq_true rfl⟩ rfl (Nat.le_of_ble_eq_true rfl) ⟨Nat.zero_le _, Nat.zero_le _⟩ ?_
  refine lv_aload_n hx hb dX0_lengthOfMonth_4 rfl (lv_at hl 0 rfl) ?_
  refine va_get (D := gD G) (cl := vwCl) (tys := gT G) (ci := 2) (v := .ref (a 1)) (C := RX0) (T := TX0) (N := 12) hx hb hw inB_X0 hown hE.K hP 0 rfl rfl 0 (by decide) (hw _ bw94) (fun _ h9 => h9) rfl dX0_lengthOfMonth_5 ?_
  refine lv_iload_n hx hb dX0_lengthOfMonth_8 rfl (lv_at hl 1 rfl) ?_
  refine va_iald (tys := gT G) hx hb hE.K hP 1 0 rfl rfl h0 dX0_lengthOfMonth_9 ?_
  refine lv_aload_n hx hb dX0_lengthOfMonth_10 rfl (lv_at hl 0 rfl) ?_
  refine va_get (D := gD G) (cl := vwCl) (tys := gT G) (ci := 2) (v := .ref (a 2)) (C := RX0) (T := TX0) (N := 12) hx hb hw inB_X0 hown hE.K hP 0 rfl rfl 1 (by decide) (hw _ bw95) (fun _ h9 => h9) rfl dX0_lengthOfMonth_11 ?_
  refine lv_iload_n hx hb dX0_lengthOfMonth_14 rfl (lv_at hl 1 rfl) ?_
  refine va_iald (tys := gT G) hx hb hE.K hP 2 0 rfl rfl h0 dX0_lengthOfMonth_15 ?_
  refine rcSi (as := [.int (xy S p0.toNatClampNeg), .int (xm S p0.toNatClampNeg)]) (rest := []) C (c_X0_monthLength l G (xy S p0.toNatClampNeg) (xm S p0.toNatClampNeg)) F_X0_monthLength rfl bw210 bw211 hE vpn hl.1 dX0_lengthOfMonth_16 ⟨Nat.le_of_ble_eq_true rfl, Nat.le_of_ble_eq_true rfl⟩ rfl (Nat.le_of_ble_eq_true rfl) ⟨Nat.zero_le _, Nat.zero_le _⟩ ?_
  exact re_i hx hb hr hk dX0_lengthOfMonth_19 (ei rfl)

set_option maxRecDepth 100000 in
set_option maxHeartbeats 4000000 in
theorem c_X0_isLeap (l : Launch) (G : GT) (a : Nat → Nat) (S : SX) (p0 : Int32) (h0 : vp_in p0 6) : RO l G yX0_isLeap cX0_isLeap 2 (some .boolean) 2 [.ref (a 0), .int p0] (wX G a S) (some (.int (fX0_isLeap S p0))) := by
  refine RO.ofW (own := RX0) rfl (plainFor_of_name pnN_RX0) (Nat.le_of_ble_eq_true rfl) ?_
  intro p e s m below meth c C hr hk hE hP ls hl
  have hx := C.1
  have hb := C.2.1
  have hown := C.2.2.2.1
  have hw := C.2.2.2.2
  have hl : lv_has ls 2 [(0, .ref (a 0)), (1, .int p0)] := hl
  refine lv_iload_n hx hb dX0_isLeap_0 rfl (lv_at hl 1 rfl) ?_
  refine rcSv (as := [.int p0]) (rest := []) C (c_X0_checkMoment l G p0 h0) F_X0_checkMoment rfl bw387 bw388 hE vpn hl.1 dX0_isLeap_1 ⟨Nat.le_of_ble_eq_true rfl, Nat.le_of_ble_eq_true rfl⟩ rfl (Nat.le_of_ble_eq_true rfl) ⟨Nat.zero_le _, Nat.zero_le _⟩ ?_
  refine lv_aload_n hx hb dX0_isLeap_4 rfl (lv_at hl 0 rfl) ?_
  refine va_get (D := gD G) (cl := vwCl) (tys := gT G) (ci := 2) (v := .ref (a 1)) (C := RX0) (T := TX0) (N := 12) hx hb hw inB_X0 hown hE.K hP 0 rfl rfl 0 (by decide) (hw _ bw94) (fun _ h9 => h9) rfl dX0_isLeap_5 ?_
  refine lv_iload_n hx hb dX0_isLeap_8 rfl (lv_at hl 1 rfl) ?_
  refine va_iald (tys := gT G) hx hb hE.K hP 1 0 rfl rfl h0 dX0_isLeap_9 ?_
  refine rcSi (as := [.int (xy S p0.toNatClampNeg)]) (rest := []) C (c_X0_isLeapYear l G (xy S p0.toNatClampNeg)) F_X0_isLeapYear rfl bw175 bw176 hE vpn hl.1 dX0_isLeap_10 ⟨Nat.le_of_ble_eq_true rfl, Nat.le_of_ble_eq_true rfl⟩ rfl (Nat.le_of_ble_eq_true rfl) ⟨Nat.zero_le _, Nat.zero_le _⟩ ?_
  exact re_z (ty := .boolean) hx hb hr hk (bX0_isLeapYear (xy S p0.toNatClampNeg)) dX0_isLeap_13 (ei rfl)

set_option maxRecDepth 100000 in
set_option maxHeartbeats 4000000 in
theorem c_X0_compare (l : Launch) (G : GT) (a : Nat → Nat) (S : SX) (p0 : Int32) (p1 : Int32) (h0 : vp_in p0 6) (h1 : vp_in p1 6) : RO l G yX0_compare cX0_compare 3 (some .int) 2 [.ref (a 0), .int p0, .int p1] (wX G a S) (some (.int (fX0_compare S p0 p1))) := by
  refine RO.ofW (own := RX0) rfl (plainFor_of_name pnN_RX0) (Nat.le_of_ble_eq_true rfl) ?_
  intro p e s m below meth c C hr hk hE hP ls hl
  have hx := C.1
  have hb := C.2.1
  have hown := C.2.2.2.1
  have hw := C.2.2.2.2
  have hl : lv_has ls 3 [(0, .ref (a 0)), (1, .int p0), (2, .int p1)] := hl
  refine lv_iload_n hx hb dX0_compare_0 rfl (lv_at hl 1 rfl) ?_
  refine rcSv (as := [.int p0]) (rest := []) C (c_X0_checkMoment l G p0 h0) F_X0_checkMoment rfl bw387 bw388 hE vpn hl.1 dX0_compare_1 ⟨Nat.le_of_ble_eq_true rfl, Nat.le_of_ble_eq_true rfl⟩ rfl (Nat.le_of_ble_eq_true rfl) ⟨Nat.zero_le _, Nat.zero_le _⟩ ?_
  refine lv_iload_n hx hb dX0_compare_4 rfl (lv_at hl 2 rfl) ?_
  refine rcSv (as := [.int p1]) (rest := []) C (c_X0_checkMoment l G p1 h1) F_X0_checkMoment rfl bw387 bw388 hE vpn hl.1 dX0_compare_5 ⟨Nat.le_of_ble_eq_true rfl, Nat.le_of_ble_eq_true rfl⟩ rfl (Nat.le_of_ble_eq_true rfl) ⟨Nat.zero_le _, Nat.zero_le _⟩ ?_
  refine lv_aload_n hx hb dX0_compare_8 rfl (lv_at hl 0 rfl) ?_
  refine lv_iload_n hx hb dX0_compare_9 rfl (lv_at hl 1 rfl) ?_
  refine lv_iload_n hx hb dX0_compare_10 rfl (lv_at hl 2 rfl) ?_
  refine rcVi (as := [.int p0, .int p1]) (rest := []) (cl := RX0) C (c_X0_order l G a S p0 p1 h0 h1) F_X0_order rfl bw236 bw238 bw9 hE hP (rv2 hE.K hP (q0 := 0) rfl) hl.1 dX0_compare_11 ⟨Nat.le_of_ble_eq_true rfl, Nat.le_of_ble_eq_true rfl⟩ rfl (Nat.le_of_ble_eq_true rfl) ⟨Nat.zero_le _, Nat.zero_le _⟩ ?_
  exact re_i hx hb hr hk dX0_compare_14 (ei rfl)

set_option maxRecDepth 100000 in
set_option maxHeartbeats 4000000 in
theorem c_X0_isSame (l : Launch) (G : GT) (a : Nat → Nat) (S : SX) (p0 : Int32) (p1 : Int32) (h0 : vp_in p0 6) (h1 : vp_in p1 6) : RO l G yX0_isSame cX0_isSame 3 (some .boolean) 2 [.ref (a 0), .int p0, .int p1] (wX G a S) (some (.int (fX0_isSame S p0 p1))) := by
  refine RO.ofW (own := RX0) rfl (plainFor_of_name pnN_RX0) (Nat.le_of_ble_eq_true rfl) ?_
  intro p e s m below meth c C hr hk hE hP ls hl
  have hx := C.1
  have hb := C.2.1
  have hown := C.2.2.2.1
  have hw := C.2.2.2.2
  have hl : lv_has ls 3 [(0, .ref (a 0)), (1, .int p0), (2, .int p1)] := hl
  refine lv_iload_n hx hb dX0_isSame_0 rfl (lv_at hl 1 rfl) ?_
  refine rcSv (as := [.int p0]) (rest := []) C (c_X0_checkMoment l G p0 h0) F_X0_checkMoment rfl bw387 bw388 hE vpn hl.1 dX0_isSame_1 ⟨Nat.le_of_ble_eq_true rfl, Nat.le_of_ble_eq_true rfl⟩ rfl (Nat.le_of_ble_eq_true rfl) ⟨Nat.zero_le _, Nat.zero_le _⟩ ?_
  refine lv_iload_n hx hb dX0_isSame_4 rfl (lv_at hl 2 rfl) ?_
  refine rcSv (as := [.int p1]) (rest := []) C (c_X0_checkMoment l G p1 h1) F_X0_checkMoment rfl bw387 bw388 hE vpn hl.1 dX0_isSame_5 ⟨Nat.le_of_ble_eq_true rfl, Nat.le_of_ble_eq_true rfl⟩ rfl (Nat.le_of_ble_eq_true rfl) ⟨Nat.zero_le _, Nat.zero_le _⟩ ?_
  refine lv_aload_n hx hb dX0_isSame_8 rfl (lv_at hl 0 rfl) ?_
  refine lv_iload_n hx hb dX0_isSame_9 rfl (lv_at hl 1 rfl) ?_
  refine lv_iload_n hx hb dX0_isSame_10 rfl (lv_at hl 2 rfl) ?_
  refine rcVi (as := [.int p0, .int p1]) (rest := []) (cl := RX0) C (c_X0_isSameLine l G a S p0 p1 h0 h1) F_X0_isSameLine rfl bw240 bw242 bw10 hE hP (rv2 hE.K hP (q0 := 0) rfl) hl.1 dX0_isSame_11 ⟨Nat.le_of_ble_eq_true rfl, Nat.le_of_ble_eq_true rfl⟩ rfl (Nat.le_of_ble_eq_true rfl) ⟨Nat.zero_le _, Nat.zero_le _⟩ ?_
  exact re_z (ty := .boolean) hx hb hr hk (bX0_isSameLine S p0 p1) dX0_isSame_14 (ei rfl)

set_option maxRecDepth 100000 in
set_option maxHeartbeats 4000000 in
theorem c_X0_isSameAs (l : Launch) (G : GT) (a : Nat → Nat) (S : SX) (p0 : Int32) (p1 : Int32) (h0 : vp_in p0 6) (r1 : ¬ p1 < (0 : Int32)) (q1 : p1 ≤ (4 : Int32)) : RO l G yX0_isSameAs cX0_isSameAs 3 (some .boolean) 5 [.ref (a 0), .int p0, .int p1] (wX G a S) (some (.int (fX0_isSameAs S p0 p1))) := by
  refine RO.ofW (own := RX0) rfl (plainFor_of_name pnN_RX0) (Nat.le_of_ble_eq_true rfl) ?_
  intro p e s m below meth c C hr hk hE hP ls hl
  have hx := C.1
  have hb := C.2.1
  have hown := C.2.2.2.1
  have hw := C.2.2.2.2
  have hl : lv_has ls 3 [(0, .ref (a 0)), (1, .int p0), (2, .int p1)] := hl
  refine lv_iload_n hx hb dX0_isSameAs_0 rfl (lv_at hl 1 rfl) ?_
  refine rcSv (as := [.int p0]) (rest := []) C (c_X0_checkMoment l G p0 h0) F_X0_checkMoment rfl bw387 bw388 hE vpn hl.1 dX0_isSameAs_1 ⟨Nat.le_of_ble_eq_true rfl, Nat.le_of_ble_eq_true rfl⟩ rfl (Nat.le_of_ble_eq_true rfl) ⟨Nat.zero_le _, Nat.zero_le _⟩ ?_
  refine lv_iload_n hx hb dX0_isSameAs_4 rfl (lv_at hl 2 rfl) ?_
  refine lv_iconst (v := (0 : Int32)) hx hb dX0_isSameAs_5 qi_0 ?_
  refine lv_iconst (v := (4 : Int32)) hx hb dX0_isSameAs_6 qi_4 ?_
  refine rcSv (as := [.int p1, .int (0 : Int32), .int (4 : Int32)]) (rest := []) C (c_X0_checkRange l G p1 (0 : Int32) (4 : Int32) r1 q1) F_X0_checkRange rfl bw308 bw309 hE vpn hl.1 dX0_isSameAs_7 ⟨Nat.le_of_ble_eq_true rfl, Nat.le_of_ble_eq_true rfl⟩ rfl (Nat.le_of_ble_eq_true rfl) ⟨Nat.zero_le _, Nat.zero_le _⟩ ?_
  refine lv_iload_n hx hb dX0_isSameAs_10 rfl (lv_at hl 2 rfl) ?_
  by_cases c_1 : p1 = (3 : Int32)
  · refine lv_lookup (off := 25) (tgt := 36) hx hb dX0_isSameAs_11 (by decide) (by rw [c_1]; decide) (by decide) ?_
    refine lv_aload_n hx hb dX0_isSameAs_36 rfl (lv_at hl 0 rfl) ?_
    refine lv_iload_n hx hb dX0_isSameAs_37 rfl (lv_at hl 1 rfl) ?_
    refine rcVi (as := [.int p0]) (rest := []) (cl := RX0) C (c_X0_isItsDateAndTime l G a S p0 h0) F_X0_isItsDateAndTime rfl bw178 bw180 bw2 hE hP (rv2 hE.K hP (q0 := 0) rfl) hl.1 dX0_isSameAs_38 ⟨Nat.le_of_ble_eq_true rfl, Nat.le_of_ble_eq_true rfl⟩ rfl (Nat.le_of_ble_eq_true rfl) ⟨Nat.zero_le _, Nat.zero_le _⟩ ?_
    exact re_z (ty := .boolean) hx hb hr hk (bX0_isItsDateAndTime S p0) dX0_isSameAs_41 (ei (if_pos c_1))
  by_cases c_2 : p1 = (4 : Int32)
  · refine lv_lookup (off := 31) (tgt := 42) hx hb dX0_isSameAs_11 (by decide) (by rw [c_2]; decide) (by decide) ?_
    refine lv_aload_n hx hb dX0_isSameAs_42 rfl (lv_at hl 0 rfl) ?_
    refine lv_iload_n hx hb dX0_isSameAs_43 rfl (lv_at hl 1 rfl) ?_
    refine rcVi (as := [.int p0]) (rest := []) (cl := RX0) C (c_X0_isItsParts l G a S p0 h0) F_X0_isItsParts rfl bw145 bw147 bw1 hE hP (rv2 hE.K hP (q0 := 0) rfl) hl.1 dX0_isSameAs_44 ⟨Nat.le_of_ble_eq_true rfl, Nat.le_of_ble_eq_true rfl⟩ rfl (Nat.le_of_ble_eq_true rfl) ⟨Nat.zero_le _, Nat.zero_le _⟩ ?_
    exact re_z (ty := .boolean) hx hb hr hk (bX0_isItsParts S p0) dX0_isSameAs_47 (ei (Eq.trans (if_neg c_1) (if_pos c_2)))
  refine lv_lookup (off := 37) (tgt := 48) hx hb dX0_isSameAs_11 (by decide) ((lv_osw c_1 (by decide)).trans ((lv_osw c_2 (by decide)).trans (rfl))) (by decide) ?_
  refine lv_iconst (v := (0 : Int32)) hx hb dX0_isSameAs_48 qi_0 ?_
  exact re_z (ty := .boolean) hx hb hr hk (by decide) dX0_isSameAs_49 (ei (Eq.trans (if_neg c_1) (if_neg c_2)))

set_option maxRecDepth 100000 in
set_option maxHeartbeats 4000000 in
theorem c_X0_house (l : Launch) (G : GT) (a : Nat → Nat) (S : SX) (p0 : Int32) (r0 : ¬ p0 < (0 : Int32)) (q0 : p0 ≤ (5 : Int32)) : RO l G yX0_house cX0_house 2 (some .int) 5 [.ref (a 0), .int p0] (wX G a S) (some (.int (fX0_house S p0))) := by
  refine RO.ofW (own := RX0) rfl (plainFor_of_name pnN_RX0) (Nat.le_of_ble_eq_true rfl) ?_
  intro p e s m below meth c C hr hk hE hP ls hl
  have hx := C.1
  have hb := C.2.1
  have hown := C.2.2.2.1
  have hw := C.2.2.2.2
  have hl : lv_has ls 2 [(0, .ref (a 0)), (1, .int p0)] := hl
  refine lv_iload_n hx hb dX0_house_0 rfl (lv_at hl 1 rfl) ?_
  refine lv_iconst (v := (0 : Int32)) hx hb dX0_house_1 qi_0 ?_
  refine lv_iconst (v := (5 : Int32)) hx hb dX0_house_2 qi_5 ?_
  refine rcSv (as := [.int p0, .int (0 : Int32), .int (5 : Int32)]) (rest := []) C (c_X0_checkRange l G p0 (0 : Int32) (5 : Int32) r0 q0) F_X0_checkRange rfl bw308 bw309 hE vpn hl.1 dX0_house_3 ⟨Nat.le_of_ble_eq_true rfl, Nat.le_of_ble_eq_true rfl⟩ rfl (Nat.le_of_ble_eq_true rfl) ⟨Nat.zero_le _, Nat.zero_le _⟩ ?_
  refine lv_aload_n hx hb dX0_house_6 rfl (lv_at hl 0 rfl) ?_
  refine lv_iload_n hx hb dX0_house_7 rfl (lv_at hl 1 rfl) ?_
  refine rcVi (as := [.int p0]) (rest := []) (cl := RX0) C (c_X0_houseNumber l G a S p0) F_X0_houseNumber rfl bw270 bw272 bw13 hE hP (rv2 hE.K hP (q0 := 0) rfl) hl.1 dX0_house_8 ⟨Nat.le_of_ble_eq_true rfl, Nat.le_of_ble_eq_true rfl⟩ rfl (Nat.le_of_ble_eq_true rfl) ⟨Nat.zero_le _, Nat.zero_le _⟩ ?_
  exact re_i hx hb hr hk dX0_house_11 (ei rfl)

set_option maxRecDepth 100000 in
set_option maxHeartbeats 4000000 in
theorem c_X0_isSound (l : Launch) (G : GT) (a : Nat → Nat) (S : SX) : RO l G yX0_isSound cX0_isSound 3 (some .boolean) 6 [.ref (a 0)] (wX G a S) (some (.int (fX0_isSound S))) := by
  refine RO.ofW (own := RX0) rfl (plainFor_of_name pnN_RX0) (Nat.le_of_ble_eq_true rfl) ?_
  intro p e s m below meth c C hr hk hE hP ls hl
  have hx := C.1
  have hb := C.2.1
  have hown := C.2.2.2.1
  have hw := C.2.2.2.2
  have hl : lv_has ls 3 [(0, .ref (a 0))] := hl
  refine lv_iconst (v := (0 : Int32)) hx hb dX0_isSound_0 qi_0 ?_
  refine lv_istore_n (lv' := [(1, .int (0 : Int32)), (0, .ref (a 0))]) hx hb dX0_isSound_1 rfl hl (Nat.le_of_ble_eq_true rfl) rfl (fun ls hl => ?_)
  refine lv_iload_n hx hb dX0_isSound_2 rfl (lv_at hl 0 rfl) ?_
  refine lv_bipush (v := (6 : Int32)) hx hb dX0_isSound_3 qb_6 ?_
  refine lv_icmp_ge (tgt := 48) hx hb dX0_isSound_5 (by decide) (fun c_x => absurd c_x (by decide)) (fun _ => ?_)
  refine lv_aload_n hx hb dX0_isSound_8 rfl (lv_at hl 1 rfl) ?_
  refine lv_iload_n hx hb dX0_isSound_9 rfl (lv_at hl 0 rfl) ?_
  refine rcVi (as := [.int (0 : Int32)]) (rest := []) (cl := RX0) C (c_X0_isSoundAlone l G a S (0 : Int32) (vp_in_lit 0)) F_X0_isSoundAlone rfl bw141 bw143 bw0 hE hP (rv2 hE.K hP (q0 := 0) rfl) hl.1 dX0_isSound_10 ⟨Nat.le_of_ble_eq_true rfl, Nat.le_of_ble_eq_true rfl⟩ rfl (Nat.le_of_ble_eq_true rfl) ⟨Nat.zero_le _, Nat.zero_le _⟩ ?_
  refine lv_if_ne (tgt := 18) hx hb dX0_isSound_13 (by decide) (fun c_1 => ?_) (fun c_1 => ?_)
  · refine lv_iconst (v := (0 : Int32)) hx hb dX0_isSound_18 qi_0 ?_
    refine lv_istore_n (lv' := [(2, .int (0 : Int32)), (1, .int (0 : Int32)), (0, .ref (a 0))]) hx hb dX0_isSound_19 rfl hl (Nat.le_of_ble_eq_true rfl) rfl (fun ls hl => ?_)
    refine lv_iload_n hx hb dX0_isSound_20 rfl (lv_at hl 0 rfl) ?_
    refine lv_iload_n hx hb dX0_isSound_21 rfl (lv_at hl 1 rfl) ?_
    refine lv_icmp_ge (tgt := 42) hx hb dX0_isSound_22 (by decide) (fun _ => ?_) (fun c_x => absurd (show (0 : Int32) ≤ (0 : Int32) from by decide) c_x)
    refine lv_iinc (v := (1 : Int32)) (lv' := [(1, .int (1 : Int32)), (2, .int (0 : Int32)), (0, .ref (a 0))]) hx hb dX0_isSound_42 hl (k := 1) rfl (by first | rfl | decide) (Nat.le_of_ble_eq_true rfl) rfl (fun ls hl => ?_)
    refine lv_goto (tgt := 2) hx hb dX0_isSound_45 (by decide) ?_
    refine lv_iload_n hx hb dX0_isSound_2 rfl (lv_at hl 0 rfl) ?_
    refine lv_bipush (v := (6 : Int32)) hx hb dX0_isSound_3 qb_6 ?_
    refine lv_icmp_ge (tgt := 48) hx hb dX0_isSound_5 (by decide) (fun c_x => absurd c_x (by decide)) (fun _ => ?_)
    refine lv_aload_n hx hb dX0_isSound_8 rfl (lv_at hl 2 rfl) ?_
    refine lv_iload_n hx hb dX0_isSound_9 rfl (lv_at hl 0 rfl) ?_
    refine rcVi (as := [.int (1 : Int32)]) (rest := []) (cl := RX0) C (c_X0_isSoundAlone l G a S (1 : Int32) (vp_in_lit 1)) F_X0_isSoundAlone rfl bw141 bw143 bw0 hE hP (rv2 hE.K hP (q0 := 0) rfl) hl.1 dX0_isSound_10 ⟨Nat.le_of_ble_eq_true rfl, Nat.le_of_ble_eq_true rfl⟩ rfl (Nat.le_of_ble_eq_true rfl) ⟨Nat.zero_le _, Nat.zero_le _⟩ ?_
    refine lv_if_ne (tgt := 18) hx hb dX0_isSound_13 (by decide) (fun c_2 => ?_) (fun c_2 => ?_)
    · refine lv_iconst (v := (0 : Int32)) hx hb dX0_isSound_18 qi_0 ?_
      refine lv_istore_n (lv' := [(2, .int (0 : Int32)), (1, .int (1 : Int32)), (0, .ref (a 0))]) hx hb dX0_isSound_19 rfl hl (Nat.le_of_ble_eq_true rfl) rfl (fun ls hl => ?_)
      refine lv_iload_n hx hb dX0_isSound_20 rfl (lv_at hl 0 rfl) ?_
      refine lv_iload_n hx hb dX0_isSound_21 rfl (lv_at hl 1 rfl) ?_
      refine lv_icmp_ge (tgt := 42) hx hb dX0_isSound_22 (by decide) (fun c_x => absurd c_x (by decide)) (fun _ => ?_)
      refine lv_aload_n hx hb dX0_isSound_25 rfl (lv_at hl 2 rfl) ?_
      refine lv_iload_n hx hb dX0_isSound_26 rfl (lv_at hl 1 rfl) ?_
      refine lv_iload_n hx hb dX0_isSound_27 rfl (lv_at hl 0 rfl) ?_
      refine rcVi (as := [.int (1 : Int32), .int (0 : Int32)]) (rest := []) (cl := RX0) C (c_X0_isSoundPair l G a S (1 : Int32) (0 : Int32) (vp_in_lit 1) (vp_in_lit 0)) F_X0_isSoundPair rfl bw232 bw234 bw8 hE hP (rv2 hE.K hP (q0 := 0) rfl) hl.1 dX0_isSound_28 ⟨Nat.le_of_ble_eq_true rfl, Nat.le_of_ble_eq_true rfl⟩ rfl (Nat.le_of_ble_eq_true rfl) ⟨Nat.zero_le _, Nat.zero_le _⟩ ?_
      refine lv_if_ne (tgt := 36) hx hb dX0_isSound_31 (by decide) (fun c_3 => ?_) (fun c_3 => ?_)
      · refine lv_iinc (v := (1 : Int32)) (lv' := [(2, .int (1 : Int32)), (1, .int (1 : Int32)), (0, .ref (a 0))]) hx hb dX0_isSound_36 hl (k := 0) rfl (by first | rfl | decide) (Nat.le_of_ble_eq_true rfl) rfl (fun ls hl => ?_)
        refine lv_goto (tgt := 20) hx hb dX0_isSound_39 (by decide) ?_
        refine lv_iload_n hx hb dX0_isSound_20 rfl (lv_at hl 0 rfl) ?_
        refine lv_iload_n hx hb dX0_isSound_21 rfl (lv_at hl 1 rfl) ?_
        refine lv_icmp_ge (tgt := 42) hx hb dX0_isSound_22 (by decide) (fun _ => ?_) (fun c_x => absurd (show (1 : Int32) ≤ (1 : Int32) from by decide) c_x)
        refine lv_iinc (v := (2 : Int32)) (lv' := [(1, .int (2 : Int32)), (2, .int (1 : Int32)), (0, .ref (a 0))]) hx hb dX0_isSound_42 hl (k := 1) rfl (by first | rfl | decide) (Nat.le_of_ble_eq_true rfl) rfl (fun ls hl => ?_)
        refine lv_goto (tgt := 2) hx hb dX0_isSound_45 (by decide) ?_
        refine lv_iload_n hx hb dX0_isSound_2 rfl (lv_at hl 0 rfl) ?_
        refine lv_bipush (v := (6 : Int32)) hx hb dX0_isSound_3 qb_6 ?_
        refine lv_icmp_ge (tgt := 48) hx hb dX0_isSound_5 (by decide) (fun c_x => absurd c_x (by decide)) (fun _ => ?_)
        refine lv_aload_n hx hb dX0_isSound_8 rfl (lv_at hl 2 rfl) ?_
        refine lv_iload_n hx hb dX0_isSound_9 rfl (lv_at hl 0 rfl) ?_
        refine rcVi (as := [.int (2 : Int32)]) (rest := []) (cl := RX0) C (c_X0_isSoundAlone l G a S (2 : Int32) (vp_in_lit 2)) F_X0_isSoundAlone rfl bw141 bw143 bw0 hE hP (rv2 hE.K hP (q0 := 0) rfl) hl.1 dX0_isSound_10 ⟨Nat.le_of_ble_eq_true rfl, Nat.le_of_ble_eq_true rfl⟩ rfl (Nat.le_of_ble_eq_true rfl) ⟨Nat.zero_le _, Nat.zero_le _⟩ ?_
        refine lv_if_ne (tgt := 18) hx hb dX0_isSound_13 (by decide) (fun c_4 => ?_) (fun c_4 => ?_)
        · refine lv_iconst (v := (0 : Int32)) hx hb dX0_isSound_18 qi_0 ?_
          refine lv_istore_n (lv' := [(2, .int (0 : Int32)), (1, .int (2 : Int32)), (0, .ref (a 0))]) hx hb dX0_isSound_19 rfl hl (Nat.le_of_ble_eq_true rfl) rfl (fun ls hl => ?_)
          refine lv_iload_n hx hb dX0_isSound_20 rfl (lv_at hl 0 rfl) ?_
          refine lv_iload_n hx hb dX0_isSound_21 rfl (lv_at hl 1 rfl) ?_
          refine lv_icmp_ge (tgt := 42) hx hb dX0_isSound_22 (by decide) (fun c_x => absurd c_x (by decide)) (fun _ => ?_)
          refine lv_aload_n hx hb dX0_isSound_25 rfl (lv_at hl 2 rfl) ?_
          refine lv_iload_n hx hb dX0_isSound_26 rfl (lv_at hl 1 rfl) ?_
          refine lv_iload_n hx hb dX0_isSound_27 rfl (lv_at hl 0 rfl) ?_
          refine rcVi (as := [.int (2 : Int32), .int (0 : Int32)]) (rest := []) (cl := RX0) C (c_X0_isSoundPair l G a S (2 : Int32) (0 : Int32) (vp_in_lit 2) (vp_in_lit 0)) F_X0_isSoundPair rfl bw232 bw234 bw8 hE hP (rv2 hE.K hP (q0 := 0) rfl) hl.1 dX0_isSound_28 ⟨Nat.le_of_ble_eq_true rfl, Nat.le_of_ble_eq_true rfl⟩ rfl (Nat.le_of_ble_eq_true rfl) ⟨Nat.zero_le _, Nat.zero_le _⟩ ?_
          refine lv_if_ne (tgt := 36) hx hb dX0_isSound_31 (by decide) (fun c_5 => ?_) (fun c_5 => ?_)
          · refine lv_iinc (v := (1 : Int32)) (lv' := [(2, .int (1 : Int32)), (1, .int (2 : Int32)), (0, .ref (a 0))]) hx hb dX0_isSound_36 hl (k := 0) rfl (by first | rfl | decide) (Nat.le_of_ble_eq_true rfl) rfl (fun ls hl => ?_)
            refine lv_goto (tgt := 20) hx hb dX0_isSound_39 (by decide) ?_
            refine lv_iload_n hx hb dX0_isSound_20 rfl (lv_at hl 0 rfl) ?_
            refine lv_iload_n hx hb dX0_isSound_21 rfl (lv_at hl 1 rfl) ?_
            refine lv_icmp_ge (tgt := 42) hx hb dX0_isSound_22 (by decide) (fun c_x => absurd c_x (by decide)) (fun _ => ?_)
            refine lv_aload_n hx hb dX0_isSound_25 rfl (lv_at hl 2 rfl) ?_
            refine lv_iload_n hx hb dX0_isSound_26 rfl (lv_at hl 1 rfl) ?_
            refine lv_iload_n hx hb dX0_isSound_27 rfl (lv_at hl 0 rfl) ?_
            refine rcVi (as := [.int (2 : Int32), .int (1 : Int32)]) (rest := []) (cl := RX0) C (c_X0_isSoundPair l G a S (2 : Int32) (1 : Int32) (vp_in_lit 2) (vp_in_lit 1)) F_X0_isSoundPair rfl bw232 bw234 bw8 hE hP (rv2 hE.K hP (q0 := 0) rfl) hl.1 dX0_isSound_28 ⟨Nat.le_of_ble_eq_true rfl, Nat.le_of_ble_eq_true rfl⟩ rfl (Nat.le_of_ble_eq_true rfl) ⟨Nat.zero_le _, Nat.zero_le _⟩ ?_
            refine lv_if_ne (tgt := 36) hx hb dX0_isSound_31 (by decide) (fun c_6 => ?_) (fun c_6 => ?_)
            · refine lv_iinc (v := (2 : Int32)) (lv' := [(2, .int (2 : Int32)), (1, .int (2 : Int32)), (0, .ref (a 0))]) hx hb dX0_isSound_36 hl (k := 0) rfl (by first | rfl | decide) (Nat.le_of_ble_eq_true rfl) rfl (fun ls hl => ?_)
              refine lv_goto (tgt := 20) hx hb dX0_isSound_39 (by decide) ?_
              refine lv_iload_n hx hb dX0_isSound_20 rfl (lv_at hl 0 rfl) ?_
              refine lv_iload_n hx hb dX0_isSound_21 rfl (lv_at hl 1 rfl) ?_
              refine lv_icmp_ge (tgt := 42) hx hb dX0_isSound_22 (by decide) (fun _ => ?_) (fun c_x => absurd (show (2 : Int32) ≤ (2 : Int32) from by decide) c_x)
              refine lv_iinc (v := (3 : Int32)) (lv' := [(1, .int (3 : Int32)), (2, .int (2 : Int32)), (0, .ref (a 0))]) hx hb dX0_isSound_42 hl (k := 1) rfl (by first | rfl | decide) (Nat.le_of_ble_eq_true rfl) rfl (fun ls hl => ?_)
              refine lv_goto (tgt := 2) hx hb dX0_isSound_45 (by decide) ?_
              refine lv_iload_n hx hb dX0_isSound_2 rfl (lv_at hl 0 rfl) ?_
              refine lv_bipush (v := (6 : Int32)) hx hb dX0_isSound_3 qb_6 ?_
              refine lv_icmp_ge (tgt := 48) hx hb dX0_isSound_5 (by decide) (fun c_x => absurd c_x (by decide)) (fun _ => ?_)
              refine lv_aload_n hx hb dX0_isSound_8 rfl (lv_at hl 2 rfl) ?_
              refine lv_iload_n hx hb dX0_isSound_9 rfl (lv_at hl 0 rfl) ?_
              refine rcVi (as := [.int (3 : Int32)]) (rest := []) (cl := RX0) C (c_X0_isSoundAlone l G a S (3 : Int32) (vp_in_lit 3)) F_X0_isSoundAlone rfl bw141 bw143 bw0 hE hP (rv2 hE.K hP (q0 := 0) rfl) hl.1 dX0_isSound_10 ⟨Nat.le_of_ble_eq_true rfl, Nat.le_of_ble_eq_true rfl⟩ rfl (Nat.le_of_ble_eq_true rfl) ⟨Nat.zero_le _, Nat.zero_le _⟩ ?_
              refine lv_if_ne (tgt := 18) hx hb dX0_isSound_13 (by decide) (fun c_7 => ?_) (fun c_7 => ?_)
              · refine lv_iconst (v := (0 : Int32)) hx hb dX0_isSound_18 qi_0 ?_
                refine lv_istore_n (lv' := [(2, .int (0 : Int32)), (1, .int (3 : Int32)), (0, .ref (a 0))]) hx hb dX0_isSound_19 rfl hl (Nat.le_of_ble_eq_true rfl) rfl (fun ls hl => ?_)
                refine lv_iload_n hx hb dX0_isSound_20 rfl (lv_at hl 0 rfl) ?_
                refine lv_iload_n hx hb dX0_isSound_21 rfl (lv_at hl 1 rfl) ?_
                refine lv_icmp_ge (tgt := 42) hx hb dX0_isSound_22 (by decide) (fun c_x => absurd c_x (by decide)) (fun _ => ?_)
                refine lv_aload_n hx hb dX0_isSound_25 rfl (lv_at hl 2 rfl) ?_
                refine lv_iload_n hx hb dX0_isSound_26 rfl (lv_at hl 1 rfl) ?_
                refine lv_iload_n hx hb dX0_isSound_27 rfl (lv_at hl 0 rfl) ?_
                refine rcVi (as := [.int (3 : Int32), .int (0 : Int32)]) (rest := []) (cl := RX0) C (c_X0_isSoundPair l G a S (3 : Int32) (0 : Int32) (vp_in_lit 3) (vp_in_lit 0)) F_X0_isSoundPair rfl bw232 bw234 bw8 hE hP (rv2 hE.K hP (q0 := 0) rfl) hl.1 dX0_isSound_28 ⟨Nat.le_of_ble_eq_true rfl, Nat.le_of_ble_eq_true rfl⟩ rfl (Nat.le_of_ble_eq_true rfl) ⟨Nat.zero_le _, Nat.zero_le _⟩ ?_
                refine lv_if_ne (tgt := 36) hx hb dX0_isSound_31 (by decide) (fun c_8 => ?_) (fun c_8 => ?_)
                · refine lv_iinc (v := (1 : Int32)) (lv' := [(2, .int (1 : Int32)), (1, .int (3 : Int32)), (0, .ref (a 0))]) hx hb dX0_isSound_36 hl (k := 0) rfl (by first | rfl | decide) (Nat.le_of_ble_eq_true rfl) rfl (fun ls hl => ?_)
                  refine lv_goto (tgt := 20) hx hb dX0_isSound_39 (by decide) ?_
                  refine lv_iload_n hx hb dX0_isSound_20 rfl (lv_at hl 0 rfl) ?_
                  refine lv_iload_n hx hb dX0_isSound_21 rfl (lv_at hl 1 rfl) ?_
                  refine lv_icmp_ge (tgt := 42) hx hb dX0_isSound_22 (by decide) (fun c_x => absurd c_x (by decide)) (fun _ => ?_)
                  refine lv_aload_n hx hb dX0_isSound_25 rfl (lv_at hl 2 rfl) ?_
                  refine lv_iload_n hx hb dX0_isSound_26 rfl (lv_at hl 1 rfl) ?_
                  refine lv_iload_n hx hb dX0_isSound_27 rfl (lv_at hl 0 rfl) ?_
                  refine rcVi (as := [.int (3 : Int32), .int (1 : Int32)]) (rest := []) (cl := RX0) C (c_X0_isSoundPair l G a S (3 : Int32) (1 : Int32) (vp_in_lit 3) (vp_in_lit 1)) F_X0_isSoundPair rfl bw232 bw234 bw8 hE hP (rv2 hE.K hP (q0 := 0) rfl) hl.1 dX0_isSound_28 ⟨Nat.le_of_ble_eq_true rfl, Nat.le_of_ble_eq_true rfl⟩ rfl (Nat.le_of_ble_eq_true rfl) ⟨Nat.zero_le _, Nat.zero_le _⟩ ?_
                  refine lv_if_ne (tgt := 36) hx hb dX0_isSound_31 (by decide) (fun c_9 => ?_) (fun c_9 => ?_)
                  · refine lv_iinc (v := (2 : Int32)) (lv' := [(2, .int (2 : Int32)), (1, .int (3 : Int32)), (0, .ref (a 0))]) hx hb dX0_isSound_36 hl (k := 0) rfl (by first | rfl | decide) (Nat.le_of_ble_eq_true rfl) rfl (fun ls hl => ?_)
                    refine lv_goto (tgt := 20) hx hb dX0_isSound_39 (by decide) ?_
                    refine lv_iload_n hx hb dX0_isSound_20 rfl (lv_at hl 0 rfl) ?_
                    refine lv_iload_n hx hb dX0_isSound_21 rfl (lv_at hl 1 rfl) ?_
                    refine lv_icmp_ge (tgt := 42) hx hb dX0_isSound_22 (by decide) (fun c_x => absurd c_x (by decide)) (fun _ => ?_)
                    refine lv_aload_n hx hb dX0_isSound_25 rfl (lv_at hl 2 rfl) ?_
                    refine lv_iload_n hx hb dX0_isSound_26 rfl (lv_at hl 1 rfl) ?_
                    refine lv_iload_n hx hb dX0_isSound_27 rfl (lv_at hl 0 rfl) ?_
                    refine rcVi (as := [.int (3 : Int32), .int (2 : Int32)]) (rest := []) (cl := RX0) C (c_X0_isSoundPair l G a S (3 : Int32) (2 : Int32) (vp_in_lit 3) (vp_in_lit 2)) F_X0_isSoundPair rfl bw232 bw234 bw8 hE hP (rv2 hE.K hP (q0 := 0) rfl) hl.1 dX0_isSound_28 ⟨Nat.le_of_ble_eq_true rfl, Nat.le_of_ble_eq_true rfl⟩ rfl (Nat.le_of_ble_eq_true rfl) ⟨Nat.zero_le _, Nat.zero_le _⟩ ?_
                    refine lv_if_ne (tgt := 36) hx hb dX0_isSound_31 (by decide) (fun c_10 => ?_) (fun c_10 => ?_)
                    · refine lv_iinc (v := (3 : Int32)) (lv' := [(2, .int (3 : Int32)), (1, .int (3 : Int32)), (0, .ref (a 0))]) hx hb dX0_isSound_36 hl (k := 0) rfl (by first | rfl | decide) (Nat.le_of_ble_eq_true rfl) rfl (fun ls hl => ?_)
                      refine lv_goto (tgt := 20) hx hb dX0_isSound_39 (by decide) ?_
                      refine lv_iload_n hx hb dX0_isSound_20 rfl (lv_at hl 0 rfl) ?_
                      refine lv_iload_n hx hb dX0_isSound_21 rfl (lv_at hl 1 rfl) ?_
                      refine lv_icmp_ge (tgt := 42) hx hb dX0_isSound_22 (by decide) (fun _ => ?_) (fun c_x => absurd (show (3 : Int32) ≤ (3 : Int32) from by decide) c_x)
                      refine lv_iinc (v := (4 : Int32)) (lv' := [(1, .int (4 : Int32)), (2, .int (3 : Int32)), (0, .ref (a 0))]) hx hb dX0_isSound_42 hl (k := 1) rfl (by first | rfl | decide) (Nat.le_of_ble_eq_true rfl) rfl (fun ls hl => ?_)
                      refine lv_goto (tgt := 2) hx hb dX0_isSound_45 (by decide) ?_
                      refine lv_iload_n hx hb dX0_isSound_2 rfl (lv_at hl 0 rfl) ?_
                      refine lv_bipush (v := (6 : Int32)) hx hb dX0_isSound_3 qb_6 ?_
                      refine lv_icmp_ge (tgt := 48) hx hb dX0_isSound_5 (by decide) (fun c_x => absurd c_x (by decide)) (fun _ => ?_)
                      refine lv_aload_n hx hb dX0_isSound_8 rfl (lv_at hl 2 rfl) ?_
                      refine lv_iload_n hx hb dX0_isSound_9 rfl (lv_at hl 0 rfl) ?_
                      refine rcVi (as := [.int (4 : Int32)]) (rest := []) (cl := RX0) C (c_X0_isSoundAlone l G a S (4 : Int32) (vp_in_lit 4)) F_X0_isSoundAlone rfl bw141 bw143 bw0 hE hP (rv2 hE.K hP (q0 := 0) rfl) hl.1 dX0_isSound_10 ⟨Nat.le_of_ble_eq_true rfl, Nat.le_of_ble_eq_true rfl⟩ rfl (Nat.le_of_ble_eq_true rfl) ⟨Nat.zero_le _, Nat.zero_le _⟩ ?_
                      refine lv_if_ne (tgt := 18) hx hb dX0_isSound_13 (by decide) (fun c_11 => ?_) (fun c_11 => ?_)
                      · refine lv_iconst (v := (0 : Int32)) hx hb dX0_isSound_18 qi_0 ?_
                        refine lv_istore_n (lv' := [(2, .int (0 : Int32)), (1, .int (4 : Int32)), (0, .ref (a 0))]) hx hb dX0_isSound_19 rfl hl (Nat.le_of_ble_eq_true rfl) rfl (fun ls hl => ?_)
                        refine lv_iload_n hx hb dX0_isSound_20 rfl (lv_at hl 0 rfl) ?_
                        refine lv_iload_n hx hb dX0_isSound_21 rfl (lv_at hl 1 rfl) ?_
                        refine lv_icmp_ge (tgt := 42) hx hb dX0_isSound_22 (by decide) (fun c_x => absurd c_x (by decide)) (fun _ => ?_)
                        refine lv_aload_n hx hb dX0_isSound_25 rfl (lv_at hl 2 rfl) ?_
                        refine lv_iload_n hx hb dX0_isSound_26 rfl (lv_at hl 1 rfl) ?_
                        refine lv_iload_n hx hb dX0_isSound_27 rfl (lv_at hl 0 rfl) ?_
                        refine rcVi (as := [.int (4 : Int32), .int (0 : Int32)]) (rest := []) (cl := RX0) C (c_X0_isSoundPair l G a S (4 : Int32) (0 : Int32) (vp_in_lit 4) (vp_in_lit 0)) F_X0_isSoundPair rfl bw232 bw234 bw8 hE hP (rv2 hE.K hP (q0 := 0) rfl) hl.1 dX0_isSound_28 ⟨Nat.le_of_ble_eq_true rfl, Nat.le_of_ble_eq_true rfl⟩ rfl (Nat.le_of_ble_eq_true rfl) ⟨Nat.zero_le _, Nat.zero_le _⟩ ?_
                        refine lv_if_ne (tgt := 36) hx hb dX0_isSound_31 (by decide) (fun c_12 => ?_) (fun c_12 => ?_)
                        · refine lv_iinc (v := (1 : Int32)) (lv' := [(2, .int (1 : Int32)), (1, .int (4 : Int32)), (0, .ref (a 0))]) hx hb dX0_isSound_36 hl (k := 0) rfl (by first | rfl | decide) (Nat.le_of_ble_eq_true rfl) rfl (fun ls hl => ?_)
                          refine lv_goto (tgt := 20) hx hb dX0_isSound_39 (by decide) ?_
                          refine lv_iload_n hx hb dX0_isSound_20 rfl (lv_at hl 0 rfl) ?_
                          refine lv_iload_n hx hb dX0_isSound_21 rfl (lv_at hl 1 rfl) ?_
                          refine lv_icmp_ge (tgt := 42) hx hb dX0_isSound_22 (by decide) (fun c_x => absurd c_x (by decide)) (fun _ => ?_)
                          refine lv_aload_n hx hb dX0_isSound_25 rfl (lv_at hl 2 rfl) ?_
                          refine lv_iload_n hx hb dX0_isSound_26 rfl (lv_at hl 1 rfl) ?_
                          refine lv_iload_n hx hb dX0_isSound_27 rfl (lv_at hl 0 rfl) ?_
                          refine rcVi (as := [.int (4 : Int32), .int (1 : Int32)]) (rest := []) (cl := RX0) C (c_X0_isSoundPair l G a S (4 : Int32) (1 : Int32) (vp_in_lit 4) (vp_in_lit 1)) F_X0_isSoundPair rfl bw232 bw234 bw8 hE hP (rv2 hE.K hP (q0 := 0) rfl) hl.1 dX0_isSound_28 ⟨Nat.le_of_ble_eq_true rfl, Nat.le_of_ble_eq_true rfl⟩ rfl (Nat.le_of_ble_eq_true rfl) ⟨Nat.zero_le _, Nat.zero_le _⟩ ?_
                          refine lv_if_ne (tgt := 36) hx hb dX0_isSound_31 (by decide) (fun c_13 => ?_) (fun c_13 => ?_)
                          · refine lv_iinc (v := (2 : Int32)) (lv' := [(2, .int (2 : Int32)), (1, .int (4 : Int32)), (0, .ref (a 0))]) hx hb dX0_isSound_36 hl (k := 0) rfl (by first | rfl | decide) (Nat.le_of_ble_eq_true rfl) rfl (fun ls hl => ?_)
                            refine lv_goto (tgt := 20) hx hb dX0_isSound_39 (by decide) ?_
                            refine lv_iload_n hx hb dX0_isSound_20 rfl (lv_at hl 0 rfl) ?_
                            refine lv_iload_n hx hb dX0_isSound_21 rfl (lv_at hl 1 rfl) ?_
                            refine lv_icmp_ge (tgt := 42) hx hb dX0_isSound_22 (by decide) (fun c_x => absurd c_x (by decide)) (fun _ => ?_)
                            refine lv_aload_n hx hb dX0_isSound_25 rfl (lv_at hl 2 rfl) ?_
                            refine lv_iload_n hx hb dX0_isSound_26 rfl (lv_at hl 1 rfl) ?_
                            refine lv_iload_n hx hb dX0_isSound_27 rfl (lv_at hl 0 rfl) ?_
                            refine rcVi (as := [.int (4 : Int32), .int (2 : Int32)]) (rest := []) (cl := RX0) C (c_X0_isSoundPair l G a S (4 : Int32) (2 : Int32) (vp_in_lit 4) (vp_in_lit 2)) F_X0_isSoundPair rfl bw232 bw234 bw8 hE hP (rv2 hE.K hP (q0 := 0) rfl) hl.1 dX0_isSound_28 ⟨Nat.le_of_ble_eq_true rfl, Nat.le_of_ble_eq_true rfl⟩ rfl (Nat.le_of_ble_eq_true rfl) ⟨Nat.zero_le _, Nat.zero_le _⟩ ?_
                            refine lv_if_ne (tgt := 36) hx hb dX0_isSound_31 (by decide) (fun c_14 => ?_) (fun c_14 => ?_)
                            · refine lv_iinc (v := (3 : Int32)) (lv' := [(2, .int (3 : Int32)), (1, .int (4 : Int32)), (0, .ref (a 0))]) hx hb dX0_isSound_36 hl (k := 0) rfl (by first | rfl | decide) (Nat.le_of_ble_eq_true rfl) rfl (fun ls hl => ?_)
                              refine lv_goto (tgt := 20) hx hb dX0_isSound_39 (by decide) ?_
                              refine lv_iload_n hx hb dX0_isSound_20 rfl (lv_at hl 0 rfl) ?_
                              refine lv_iload_n hx hb dX0_isSound_21 rfl (lv_at hl 1 rfl) ?_
                              refine lv_icmp_ge (tgt := 42) hx hb dX0_isSound_22 (by decide) (fun c_x => absurd c_x (by decide)) (fun _ => ?_)
                              refine lv_aload_n hx hb dX0_isSound_25 rfl (lv_at hl 2 rfl) ?_
                              refine lv_iload_n hx hb dX0_isSound_26 rfl (lv_at hl 1 rfl) ?_
                              refine lv_iload_n hx hb dX0_isSound_27 rfl (lv_at hl 0 rfl) ?_
                              refine rcVi (as := [.int (4 : Int32), .int (3 : Int32)]) (rest := []) (cl := RX0) C (c_X0_isSoundPair l G a S (4 : Int32) (3 : Int32) (vp_in_lit 4) (vp_in_lit 3)) F_X0_isSoundPair rfl bw232 bw234 bw8 hE hP (rv2 hE.K hP (q0 := 0) rfl) hl.1 dX0_isSound_28 ⟨Nat.le_of_ble_eq_true rfl, Nat.le_of_ble_eq_true rfl⟩ rfl (Nat.le_of_ble_eq_true rfl) ⟨Nat.zero_le _, Nat.zero_le _⟩ ?_
                              refine lv_if_ne (tgt := 36) hx hb dX0_isSound_31 (by decide) (fun c_15 => ?_) (fun c_15 => ?_)
                              · refine lv_iinc (v := (4 : Int32)) (lv' := [(2, .int (4 : Int32)), (1, .int (4 : Int32)), (0, .ref (a 0))]) hx hb dX0_isSound_36 hl (k := 0) rfl (by first | rfl | decide) (Nat.le_of_ble_eq_true rfl) rfl (fun ls hl => ?_)
                                refine lv_goto (tgt := 20) hx hb dX0_isSound_39 (by decide) ?_
                                refine lv_iload_n hx hb dX0_isSound_20 rfl (lv_at hl 0 rfl) ?_
                                refine lv_iload_n hx hb dX0_isSound_21 rfl (lv_at hl 1 rfl) ?_
                                refine lv_icmp_ge (tgt := 42) hx hb dX0_isSound_22 (by decide) (fun _ => ?_) (fun c_x => absurd (show (4 : Int32) ≤ (4 : Int32) from by decide) c_x)
                                refine lv_iinc (v := (5 : Int32)) (lv' := [(1, .int (5 : Int32)), (2, .int (4 : Int32)), (0, .ref (a 0))]) hx hb dX0_isSound_42 hl (k := 1) rfl (by first | rfl | decide) (Nat.le_of_ble_eq_true rfl) rfl (fun ls hl => ?_)
                                refine lv_goto (tgt := 2) hx hb dX0_isSound_45 (by decide) ?_
                                refine lv_iload_n hx hb dX0_isSound_2 rfl (lv_at hl 0 rfl) ?_
                                refine lv_bipush (v := (6 : Int32)) hx hb dX0_isSound_3 qb_6 ?_
                                refine lv_icmp_ge (tgt := 48) hx hb dX0_isSound_5 (by decide) (fun c_x => absurd c_x (by decide)) (fun _ => ?_)
                                refine lv_aload_n hx hb dX0_isSound_8 rfl (lv_at hl 2 rfl) ?_
                                refine lv_iload_n hx hb dX0_isSound_9 rfl (lv_at hl 0 rfl) ?_
                                refine rcVi (as := [.int (5 : Int32)]) (rest := []) (cl := RX0) C (c_X0_isSoundAlone l G a S (5 : Int32) (vp_in_lit 5)) F_X0_isSoundAlone rfl bw141 bw143 bw0 hE hP (rv2 hE.K hP (q0 := 0) rfl) hl.1 dX0_isSound_10 ⟨Nat.le_of_ble_eq_true rfl, Nat.le_of_ble_eq_true rfl⟩ rfl (Nat.le_of_ble_eq_true rfl) ⟨Nat.zero_le _, Nat.zero_le _⟩ ?_
                                refine lv_if_ne (tgt := 18) hx hb dX0_isSound_13 (by decide) (fun c_16 => ?_) (fun c_16 => ?_)
                                · refine lv_iconst (v := (0 : Int32)) hx hb dX0_isSound_18 qi_0 ?_
                                  refine lv_istore_n (lv' := [(2, .int (0 : Int32)), (1, .int (5 : Int32)), (0, .ref (a 0))]) hx hb dX0_isSound_19 rfl hl (Nat.le_of_ble_eq_true rfl) rfl (fun ls hl => ?_)
                                  refine lv_iload_n hx hb dX0_isSound_20 rfl (lv_at hl 0 rfl) ?_
                                  refine lv_iload_n hx hb dX0_isSound_21 rfl (lv_at hl 1 rfl) ?_
                                  refine lv_icmp_ge (tgt := 42) hx hb dX0_isSound_22 (by decide) (fun c_x => absurd c_x (by decide)) (fun _ => ?_)
                                  refine lv_aload_n hx hb dX0_isSound_25 rfl (lv_at hl 2 rfl) ?_
                                  refine lv_iload_n hx hb dX0_isSound_26 rfl (lv_at hl 1 rfl) ?_
                                  refine lv_iload_n hx hb dX0_isSound_27 rfl (lv_at hl 0 rfl) ?_
                                  refine rcVi (as := [.int (5 : Int32), .int (0 : Int32)]) (rest := []) (cl := RX0) C (c_X0_isSoundPair l G a S (5 : Int32) (0 : Int32) (vp_in_lit 5) (vp_in_lit 0)) F_X0_isSoundPair rfl bw232 bw234 bw8 hE hP (rv2 hE.K hP (q0 := 0) rfl) hl.1 dX0_isSound_28 ⟨Nat.le_of_ble_eq_true rfl, Nat.le_of_ble_eq_true rfl⟩ rfl (Nat.le_of_ble_eq_true rfl) ⟨Nat.zero_le _, Nat.zero_le _⟩ ?_
                                  refine lv_if_ne (tgt := 36) hx hb dX0_isSound_31 (by decide) (fun c_17 => ?_) (fun c_17 => ?_)
                                  · refine lv_iinc (v := (1 : Int32)) (lv' := [(2, .int (1 : Int32)), (1, .int (5 : Int32)), (0, .ref (a 0))]) hx hb dX0_isSound_36 hl (k := 0) rfl (by first | rfl | decide) (Nat.le_of_ble_eq_true rfl) rfl (fun ls hl => ?_)
                                    refine lv_goto (tgt := 20) hx hb dX0_isSound_39 (by decide) ?_
                                    refine lv_iload_n hx hb dX0_isSound_20 rfl (lv_at hl 0 rfl) ?_
                                    refine lv_iload_n hx hb dX0_isSound_21 rfl (lv_at hl 1 rfl) ?_
                                    refine lv_icmp_ge (tgt := 42) hx hb dX0_isSound_22 (by decide) (fun c_x => absurd c_x (by decide)) (fun _ => ?_)
                                    refine lv_aload_n hx hb dX0_isSound_25 rfl (lv_at hl 2 rfl) ?_
                                    refine lv_iload_n hx hb dX0_isSound_26 rfl (lv_at hl 1 rfl) ?_
                                    refine lv_iload_n hx hb dX0_isSound_27 rfl (lv_at hl 0 rfl) ?_
                                    refine rcVi (as := [.int (5 : Int32), .int (1 : Int32)]) (rest := []) (cl := RX0) C (c_X0_isSoundPair l G a S (5 : Int32) (1 : Int32) (vp_in_lit 5) (vp_in_lit 1)) F_X0_isSoundPair rfl bw232 bw234 bw8 hE hP (rv2 hE.K hP (q0 := 0) rfl) hl.1 dX0_isSound_28 ⟨Nat.le_of_ble_eq_true rfl, Nat.le_of_ble_eq_true rfl⟩ rfl (Nat.le_of_ble_eq_true rfl) ⟨Nat.zero_le _, Nat.zero_le _⟩ ?_
                                    refine lv_if_ne (tgt := 36) hx hb dX0_isSound_31 (by decide) (fun c_18 => ?_) (fun c_18 => ?_)
                                    · refine lv_iinc (v := (2 : Int32)) (lv' := [(2, .int (2 : Int32)), (1, .int (5 : Int32)), (0, .ref (a 0))]) hx hb dX0_isSound_36 hl (k := 0) rfl (by first | rfl | decide) (Nat.le_of_ble_eq_true rfl) rfl (fun ls hl => ?_)
                                      refine lv_goto (tgt := 20) hx hb dX0_isSound_39 (by decide) ?_
                                      refine lv_iload_n hx hb dX0_isSound_20 rfl (lv_at hl 0 rfl) ?_
                                      refine lv_iload_n hx hb dX0_isSound_21 rfl (lv_at hl 1 rfl) ?_
                                      refine lv_icmp_ge (tgt := 42) hx hb dX0_isSound_22 (by decide) (fun c_x => absurd c_x (by decide)) (fun _ => ?_)
                                      refine lv_aload_n hx hb dX0_isSound_25 rfl (lv_at hl 2 rfl) ?_
                                      refine lv_iload_n hx hb dX0_isSound_26 rfl (lv_at hl 1 rfl) ?_
                                      refine lv_iload_n hx hb dX0_isSound_27 rfl (lv_at hl 0 rfl) ?_
                                      refine rcVi (as := [.int (5 : Int32), .int (2 : Int32)]) (rest := []) (cl := RX0) C (c_X0_isSoundPair l G a S (5 : Int32) (2 : Int32) (vp_in_lit 5) (vp_in_lit 2)) F_X0_isSoundPair rfl bw232 bw234 bw8 hE hP (rv2 hE.K hP (q0 := 0) rfl) hl.1 dX0_isSound_28 ⟨Nat.le_of_ble_eq_true rfl, Nat.le_of_ble_eq_true rfl⟩ rfl (Nat.le_of_ble_eq_true rfl) ⟨Nat.zero_le _, Nat.zero_le _⟩ ?_
                                      refine lv_if_ne (tgt := 36) hx hb dX0_isSound_31 (by decide) (fun c_19 => ?_) (fun c_19 => ?_)
                                      · refine lv_iinc (v := (3 : Int32)) (lv' := [(2, .int (3 : Int32)), (1, .int (5 : Int32)), (0, .ref (a 0))]) hx hb dX0_isSound_36 hl (k := 0) rfl (by first | rfl | decide) (Nat.le_of_ble_eq_true rfl) rfl (fun ls hl => ?_)
                                        refine lv_goto (tgt := 20) hx hb dX0_isSound_39 (by decide) ?_
                                        refine lv_iload_n hx hb dX0_isSound_20 rfl (lv_at hl 0 rfl) ?_
                                        refine lv_iload_n hx hb dX0_isSound_21 rfl (lv_at hl 1 rfl) ?_
                                        refine lv_icmp_ge (tgt := 42) hx hb dX0_isSound_22 (by decide) (fun c_x => absurd c_x (by decide)) (fun _ => ?_)
                                        refine lv_aload_n hx hb dX0_isSound_25 rfl (lv_at hl 2 rfl) ?_
                                        refine lv_iload_n hx hb dX0_isSound_26 rfl (lv_at hl 1 rfl) ?_
                                        refine lv_iload_n hx hb dX0_isSound_27 rfl (lv_at hl 0 rfl) ?_
                                        refine rcVi (as := [.int (5 : Int32), .int (3 : Int32)]) (rest := []) (cl := RX0) C (c_X0_isSoundPair l G a S (5 : Int32) (3 : Int32) (vp_in_lit 5) (vp_in_lit 3)) F_X0_isSoundPair rfl bw232 bw234 bw8 hE hP (rv2 hE.K hP (q0 := 0) rfl) hl.1 dX0_isSound_28 ⟨Nat.le_of_ble_eq_true rfl, Nat.le_of_ble_eq_true rfl⟩ rfl (Nat.le_of_ble_eq_true rfl) ⟨Nat.zero_le _, Nat.zero_le _⟩ ?_
                                        refine lv_if_ne (tgt := 36) hx hb dX0_isSound_31 (by decide) (fun c_20 => ?_) (fun c_20 => ?_)
                                        · refine lv_iinc (v := (4 : Int32)) (lv' := [(2, .int (4 : Int32)), (1, .int (5 : Int32)), (0, .ref (a 0))]) hx hb dX0_isSound_36 hl (k := 0) rfl (by first | rfl | decide) (Nat.le_of_ble_eq_true rfl) rfl (fun ls hl => ?_)
                                          refine lv_goto (tgt := 20) hx hb dX0_isSound_39 (by decide) ?_
                                          refine lv_iload_n hx hb dX0_isSound_20 rfl (lv_at hl 0 rfl) ?_
                                          refine lv_iload_n hx hb dX0_isSound_21 rfl (lv_at hl 1 rfl) ?_
                                          refine lv_icmp_ge (tgt := 42) hx hb dX0_isSound_22 (by decide) (fun c_x => absurd c_x (by decide)) (fun _ => ?_)
                                          refine lv_aload_n hx hb dX0_isSound_25 rfl (lv_at hl 2 rfl) ?_
                                          refine lv_iload_n hx hb dX0_isSound_26 rfl (lv_at hl 1 rfl) ?_
                                          refine lv_iload_n hx hb dX0_isSound_27 rfl (lv_at hl 0 rfl) ?_
                                          refine rcVi (as := [.int (5 : Int32), .int (4 : Int32)]) (rest := []) (cl := RX0) C (c_X0_isSoundPair l G a S (5 : Int32) (4 : Int32) (vp_in_lit 5) (vp_in_lit 4)) F_X0_isSoundPair rfl bw232 bw234 bw8 hE hP (rv2 hE.K hP (q0 := 0) rfl) hl.1 dX0_isSound_28 ⟨Nat.le_of_ble_eq_true rfl, Nat.le_of_ble_eq_true rfl⟩ rfl (Nat.le_of_ble_eq_true rfl) ⟨Nat.zero_le _, Nat.zero_le _⟩ ?_
                                          refine lv_if_ne (tgt := 36) hx hb dX0_isSound_31 (by decide) (fun c_21 => ?_) (fun c_21 => ?_)
                                          · refine lv_iinc (v := (5 : Int32)) (lv' := [(2, .int (5 : Int32)), (1, .int (5 : Int32)), (0, .ref (a 0))]) hx hb dX0_isSound_36 hl (k := 0) rfl (by first | rfl | decide) (Nat.le_of_ble_eq_true rfl) rfl (fun ls hl => ?_)
                                            refine lv_goto (tgt := 20) hx hb dX0_isSound_39 (by decide) ?_
                                            refine lv_iload_n hx hb dX0_isSound_20 rfl (lv_at hl 0 rfl) ?_
                                            refine lv_iload_n hx hb dX0_isSound_21 rfl (lv_at hl 1 rfl) ?_
                                            refine lv_icmp_ge (tgt := 42) hx hb dX0_isSound_22 (by decide) (fun _ => ?_) (fun c_x => absurd (show (5 : Int32) ≤ (5 : Int32) from by decide) c_x)
                                            refine lv_iinc (v := (6 : Int32)) (lv' := [(1, .int (6 : Int32)), (2, .int (5 : Int32)), (0, .ref (a 0))]) hx hb dX0_isSound_42 hl (k := 1) rfl (by first | rfl | decide) (Nat.le_of_ble_eq_true rfl) rfl (fun ls hl => ?_)
                                            refine lv_goto (tgt := 2) hx hb dX0_isSound_45 (by decide) ?_
                                            refine lv_iload_n hx hb dX0_isSound_2 rfl (lv_at hl 0 rfl) ?_
                                            refine lv_bipush (v := (6 : Int32)) hx hb dX0_isSound_3 qb_6 ?_
                                            refine lv_icmp_ge (tgt := 48) hx hb dX0_isSound_5 (by decide) (fun _ => ?_) (fun c_x => absurd (show (6 : Int32) ≤ (6 : Int32) from by decide) c_x)
                                            refine lv_iconst (v := (1 : Int32)) hx hb dX0_isSound_48 qi_1 ?_
                                            exact re_z (ty := .boolean) hx hb hr hk (by decide) dX0_isSound_49 (ei (Eq.trans (if_neg c_1) (Eq.trans (if_neg c_2) (Eq.trans (if_neg c_3) (Eq.trans (if_neg c_4) (Eq.trans (if_neg c_5) (Eq.trans (if_neg c_6) (Eq.trans (if_neg c_7) (Eq.trans (if_neg c_8) (Eq.trans (if_neg c_9) (Eq.trans (if_neg c_10) (Eq.trans (if_neg c_11) (Eq.trans (if_neg c_12) (Eq.trans (if_neg c_13) (Eq.trans (if_neg c_14) (Eq.trans (if_neg c_15) (Eq.trans (if_neg c_16) (Eq.trans (if_neg c_17) (Eq.trans (if_neg c_18) (Eq.trans (if_neg c_19) (Eq.trans (if_neg c_20) (if_neg c_21))))))))))))))))))))))
                                          · refine lv_iconst (v := (0 : Int32)) hx hb dX0_isSound_34 qi_0 ?_
                                            exact re_z (ty := .boolean) hx hb hr hk (by decide) dX0_isSound_35 (ei (Eq.trans (if_neg c_1) (Eq.trans (if_neg c_2) (Eq.trans (if_neg c_3) (Eq.trans (if_neg c_4) (Eq.trans (if_neg c_5) (Eq.trans (if_neg c_6) (Eq.trans (if_neg c_7) (Eq.trans (if_neg c_8) (Eq.trans (if_neg c_9) (Eq.trans (if_neg c_10) (Eq.trans (if_neg c_11) (Eq.trans (if_neg c_12) (Eq.trans (if_neg c_13) (Eq.trans (if_neg c_14) (Eq.trans (if_neg c_15) (Eq.trans (if_neg c_16) (Eq.trans (if_neg c_17) (Eq.trans (if_neg c_18) (Eq.trans (if_neg c_19) (Eq.trans (if_neg c_20) (if_pos c_21))))))))))))))))))))))
                                        · refine lv_iconst (v := (0 : Int32)) hx hb dX0_isSound_34 qi_0 ?_
                                          exact re_z (ty := .boolean) hx hb hr hk (by decide) dX0_isSound_35 (ei (Eq.trans (if_neg c_1) (Eq.trans (if_neg c_2) (Eq.trans (if_neg c_3) (Eq.trans (if_neg c_4) (Eq.trans (if_neg c_5) (Eq.trans (if_neg c_6) (Eq.trans (if_neg c_7) (Eq.trans (if_neg c_8) (Eq.trans (if_neg c_9) (Eq.trans (if_neg c_10) (Eq.trans (if_neg c_11) (Eq.trans (if_neg c_12) (Eq.trans (if_neg c_13) (Eq.trans (if_neg c_14) (Eq.trans (if_neg c_15) (Eq.trans (if_neg c_16) (Eq.trans (if_neg c_17) (Eq.trans (if_neg c_18) (Eq.trans (if_neg c_19) (if_pos c_20)))))))))))))))))))))
                                      · refine lv_iconst (v := (0 : Int32)) hx hb dX0_isSound_34 qi_0 ?_
                                        exact re_z (ty := .boolean) hx hb hr hk (by decide) dX0_isSound_35 (ei (Eq.trans (if_neg c_1) (Eq.trans (if_neg c_2) (Eq.trans (if_neg c_3) (Eq.trans (if_neg c_4) (Eq.trans (if_neg c_5) (Eq.trans (if_neg c_6) (Eq.trans (if_neg c_7) (Eq.trans (if_neg c_8) (Eq.trans (if_neg c_9) (Eq.trans (if_neg c_10) (Eq.trans (if_neg c_11) (Eq.trans (if_neg c_12) (Eq.trans (if_neg c_13) (Eq.trans (if_neg c_14) (Eq.trans (if_neg c_15) (Eq.trans (if_neg c_16) (Eq.trans (if_neg c_17) (Eq.trans (if_neg c_18) (if_pos c_19))))))))))))))))))))
                                    · refine lv_iconst (v := (0 : Int32)) hx hb dX0_isSound_34 qi_0 ?_
                                      exact re_z (ty := .boolean) hx hb hr hk (by decide) dX0_isSound_35 (ei (Eq.trans (if_neg c_1) (Eq.trans (if_neg c_2) (Eq.trans (if_neg c_3) (Eq.trans (if_neg c_4) (Eq.trans (if_neg c_5) (Eq.trans (if_neg c_6) (Eq.trans (if_neg c_7) (Eq.trans (if_neg c_8) (Eq.trans (if_neg c_9) (Eq.trans (if_neg c_10) (Eq.trans (if_neg c_11) (Eq.trans (if_neg c_12) (Eq.trans (if_neg c_13) (Eq.trans (if_neg c_14) (Eq.trans (if_neg c_15) (Eq.trans (if_neg c_16) (Eq.trans (if_neg c_17) (if_pos c_18)))))))))))))))))))
                                  · refine lv_iconst (v := (0 : Int32)) hx hb dX0_isSound_34 qi_0 ?_
                                    exact re_z (ty := .boolean) hx hb hr hk (by decide) dX0_isSound_35 (ei (Eq.trans (if_neg c_1) (Eq.trans (if_neg c_2) (Eq.trans (if_neg c_3) (Eq.trans (if_neg c_4) (Eq.trans (if_neg c_5) (Eq.trans (if_neg c_6) (Eq.trans (if_neg c_7) (Eq.trans (if_neg c_8) (Eq.trans (if_neg c_9) (Eq.trans (if_neg c_10) (Eq.trans (if_neg c_11) (Eq.trans (if_neg c_12) (Eq.trans (if_neg c_13) (Eq.trans (if_neg c_14) (Eq.trans (if_neg c_15) (Eq.trans (if_neg c_16) (if_pos c_17))))))))))))))))))
                                · refine lv_iconst (v := (0 : Int32)) hx hb dX0_isSound_16 qi_0 ?_
                                  exact re_z (ty := .boolean) hx hb hr hk (by decide) dX0_isSound_17 (ei (Eq.trans (if_neg c_1) (Eq.trans (if_neg c_2) (Eq.trans (if_neg c_3) (Eq.trans (if_neg c_4) (Eq.trans (if_neg c_5) (Eq.trans (if_neg c_6) (Eq.trans (if_neg c_7) (Eq.trans (if_neg c_8) (Eq.trans (if_neg c_9) (Eq.trans (if_neg c_10) (Eq.trans (if_neg c_11) (Eq.trans (if_neg c_12) (Eq.trans (if_neg c_13) (Eq.trans (if_neg c_14) (Eq.trans (if_neg c_15) (if_pos c_16)))))))))))))))))
                              · refine lv_iconst (v := (0 : Int32)) hx hb dX0_isSound_34 qi_0 ?_
                                exact re_z (ty := .boolean) hx hb hr hk (by decide) dX0_isSound_35 (ei (Eq.trans (if_neg c_1) (Eq.trans (if_neg c_2) (Eq.trans (if_neg c_3) (Eq.trans (if_neg c_4) (Eq.trans (if_neg c_5) (Eq.trans (if_neg c_6) (Eq.trans (if_neg c_7) (Eq.trans (if_neg c_8) (Eq.trans (if_neg c_9) (Eq.trans (if_neg c_10) (Eq.trans (if_neg c_11) (Eq.trans (if_neg c_12) (Eq.trans (if_neg c_13) (Eq.trans (if_neg c_14) (if_pos c_15))))))))))))))))
                            · refine lv_iconst (v := (0 : Int32)) hx hb dX0_isSound_34 qi_0 ?_
                              exact re_z (ty := .boolean) hx hb hr hk (by decide) dX0_isSound_35 (ei (Eq.trans (if_neg c_1) (Eq.trans (if_neg c_2) (Eq.trans (if_neg c_3) (Eq.trans (if_neg c_4) (Eq.trans (if_neg c_5) (Eq.trans (if_neg c_6) (Eq.trans (if_neg c_7) (Eq.trans (if_neg c_8) (Eq.trans (if_neg c_9) (Eq.trans (if_neg c_10) (Eq.trans (if_neg c_11) (Eq.trans (if_neg c_12) (Eq.trans (if_neg c_13) (if_pos c_14)))))))))))))))
                          · refine lv_iconst (v := (0 : Int32)) hx hb dX0_isSound_34 qi_0 ?_
                            exact re_z (ty := .boolean) hx hb hr hk (by decide) dX0_isSound_35 (ei (Eq.trans (if_neg c_1) (Eq.trans (if_neg c_2) (Eq.trans (if_neg c_3) (Eq.trans (if_neg c_4) (Eq.trans (if_neg c_5) (Eq.trans (if_neg c_6) (Eq.trans (if_neg c_7) (Eq.trans (if_neg c_8) (Eq.trans (if_neg c_9) (Eq.trans (if_neg c_10) (Eq.trans (if_neg c_11) (Eq.trans (if_neg c_12) (if_pos c_13))))))))))))))
                        · refine lv_iconst (v := (0 : Int32)) hx hb dX0_isSound_34 qi_0 ?_
                          exact re_z (ty := .boolean) hx hb hr hk (by decide) dX0_isSound_35 (ei (Eq.trans (if_neg c_1) (Eq.trans (if_neg c_2) (Eq.trans (if_neg c_3) (Eq.trans (if_neg c_4) (Eq.trans (if_neg c_5) (Eq.trans (if_neg c_6) (Eq.trans (if_neg c_7) (Eq.trans (if_neg c_8) (Eq.trans (if_neg c_9) (Eq.trans (if_neg c_10) (Eq.trans (if_neg c_11) (if_pos c_12)))))))))))))
                      · refine lv_iconst (v := (0 : Int32)) hx hb dX0_isSound_16 qi_0 ?_
                        exact re_z (ty := .boolean) hx hb hr hk (by decide) dX0_isSound_17 (ei (Eq.trans (if_neg c_1) (Eq.trans (if_neg c_2) (Eq.trans (if_neg c_3) (Eq.trans (if_neg c_4) (Eq.trans (if_neg c_5) (Eq.trans (if_neg c_6) (Eq.trans (if_neg c_7) (Eq.trans (if_neg c_8) (Eq.trans (if_neg c_9) (Eq.trans (if_neg c_10) (if_pos c_11))))))))))))
                    · refine lv_iconst (v := (0 : Int32)) hx hb dX0_isSound_34 qi_0 ?_
                      exact re_z (ty := .boolean) hx hb hr hk (by decide) dX0_isSound_35 (ei (Eq.trans (if_neg c_1) (Eq.trans (if_neg c_2) (Eq.trans (if_neg c_3) (Eq.trans (if_neg c_4) (Eq.trans (if_neg c_5) (Eq.trans (if_neg c_6) (Eq.trans (if_neg c_7) (Eq.trans (if_neg c_8) (Eq.trans (if_neg c_9) (if_pos c_10)))))))))))
                  · refine lv_iconst (v := (0 : Int32)) hx hb dX0_isSound_34 qi_0 ?_
                    exact re_z (ty := .boolean) hx hb hr hk (by decide) dX0_isSound_35 (ei (Eq.trans (if_neg c_1) (Eq.trans (if_neg c_2) (Eq.trans (if_neg c_3) (Eq.trans (if_neg c_4) (Eq.trans (if_neg c_5) (Eq.trans (if_neg c_6) (Eq.trans (if_neg c_7) (Eq.trans (if_neg c_8) (if_pos c_9))))))))))
                · refine lv_iconst (v := (0 : Int32)) hx hb dX0_isSound_34 qi_0 ?_
                  exact re_z (ty := .boolean) hx hb hr hk (by decide) dX0_isSound_35 (ei (Eq.trans (if_neg c_1) (Eq.trans (if_neg c_2) (Eq.trans (if_neg c_3) (Eq.trans (if_neg c_4) (Eq.trans (if_neg c_5) (Eq.trans (if_neg c_6) (Eq.trans (if_neg c_7) (if_pos c_8)))))))))
              · refine lv_iconst (v := (0 : Int32)) hx hb dX0_isSound_16 qi_0 ?_
                exact re_z (ty := .boolean) hx hb hr hk (by decide) dX0_isSound_17 (ei (Eq.trans (if_neg c_1) (Eq.trans (if_neg c_2) (Eq.trans (if_neg c_3) (Eq.trans (if_neg c_4) (Eq.trans (if_neg c_5) (Eq.trans (if_neg c_6) (if_pos c_7))))))))
            · refine lv_iconst (v := (0 : Int32)) hx hb dX0_isSound_34 qi_0 ?_
              exact re_z (ty := .boolean) hx hb hr hk (by decide) dX0_isSound_35 (ei (Eq.trans (if_neg c_1) (Eq.trans (if_neg c_2) (Eq.trans (if_neg c_3) (Eq.trans (if_neg c_4) (Eq.trans (if_neg c_5) (if_pos c_6)))))))
          · refine lv_iconst (v := (0 : Int32)) hx hb dX0_isSound_34 qi_0 ?_
            exact re_z (ty := .boolean) hx hb hr hk (by decide) dX0_isSound_35 (ei (Eq.trans (if_neg c_1) (Eq.trans (if_neg c_2) (Eq.trans (if_neg c_3) (Eq.trans (if_neg c_4) (if_pos c_5))))))
        · refine lv_iconst (v := (0 : Int32)) hx hb dX0_isSound_16 qi_0 ?_
          exact re_z (ty := .boolean) hx hb hr hk (by decide) dX0_isSound_17 (ei (Eq.trans (if_neg c_1) (Eq.trans (if_neg c_2) (Eq.trans (if_neg c_3) (if_pos c_4)))))
      · refine lv_iconst (v := (0 : Int32)) hx hb dX0_isSound_34 qi_0 ?_
        exact re_z (ty := .boolean) hx hb hr hk (by decide) dX0_isSound_35 (ei (Eq.trans (if_neg c_1) (Eq.trans (if_neg c_2) (if_pos c_3))))
    · refine lv_iconst (v := (0 : Int32)) hx hb dX0_isSound_16 qi_0 ?_
      exact re_z (ty := .boolean) hx hb hr hk (by decide) dX0_isSound_17 (ei (Eq.trans (if_neg c_1) (if_pos c_2)))
  · refine lv_iconst (v := (0 : Int32)) hx hb dX0_isSound_16 qi_0 ?_
    exact re_z (ty := .boolean) hx hb hr hk (by decide) dX0_isSound_17 (ei (if_pos c_1))
