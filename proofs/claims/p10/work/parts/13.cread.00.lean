set_option maxRecDepth 100000 in
set_option maxHeartbeats 4000000 in
theorem c_X0_yearDay (l : Launch) (G : GT) (a : Nat → Nat) (S : SX) (p0 : Int32) (h0 : vp_in p0 6) : RO l G yX0_yearDay cX0_yearDay 2 (some .int) 3 [.ref (a 0), .int p0] (wX G a S) (some (.int (fX0_yearDay S p0))) := by
  refine RO.ofW (own := RX0) rfl (by decide +kernel) (Nat.le_of_ble_eq_true rfl) ?_
  intro p e s m below meth c C hr hk hE hP ls hl
  have hx := C.1
  have hb := C.2.1
  have hown := C.2.2.2.1
  have hw := C.2.2.2.2
  have hl : lv_has ls 2 [(0, .ref (a 0)), (1, .int p0)] := hl
  refine lv_aload_n hx hb dX0_yearDay_0 rfl (lv_at hl 0 rfl) ?_
  refine va_get (D := gD G) (cl := vwCl) (tys := gT G) (ci := 2) (v := .ref (a 1)) (C := RX0) (T := TX0) (N := 12) hx hb hw inB_X0 hown hE.K hP 0 rfl rfl 0 (by decide) (hw _ bw94) (fun _ h9 => h9) rfl dX0_yearDay_1 ?_
  refine lv_iload_n hx hb dX0_yearDay_4 rfl (lv_at hl 1 rfl) ?_
  refine va_iald (tys := gT G) hx hb hE.K hP 1 0 rfl rfl h0 dX0_yearDay_5 ?_
  refine lv_aload_n hx hb dX0_yearDay_6 rfl (lv_at hl 0 rfl) ?_
  refine va_get (D := gD G) (cl := vwCl) (tys := gT G) (ci := 2) (v := .ref (a 2)) (C := RX0) (T := TX0) (N := 12) hx hb hw inB_X0 hown hE.K hP 0 rfl rfl 1 (by decide) (hw _ bw95) (fun _ h9 => h9) rfl dX0_yearDay_7 ?_
  refine lv_iload_n hx hb dX0_yearDay_10 rfl (lv_at hl 1 rfl) ?_
  refine va_iald (tys := gT G) hx hb hE.K hP 2 0 rfl rfl h0 dX0_yearDay_11 ?_
  refine rcSi (as := [.int (xy S p0.toNatClampNeg), .int (xm S p0.toNatClampNeg)]) (rest := []) C (c_X0_daysAhead l G (xy S p0.toNatClampNeg) (xm S p0.toNatClampNeg)) F_X0_daysAhead rfl bw170 bw171 hE vpn hl.1 dX0_yearDay_12 ⟨Nat.le_of_ble_eq_true rfl, Nat.le_of_ble_eq_true rfl⟩ rfl (Nat.le_of_ble_eq_true rfl) ⟨Nat.zero_le _, Nat.zero_le _⟩ ?_
  refine lv_aload_n hx hb dX0_yearDay_15 rfl (lv_at hl 0 rfl) ?_
  refine va_get (D := gD G) (cl := vwCl) (tys := gT G) (ci := 2) (v := .ref (a 3)) (C := RX0) (T := TX0) (N := 12) hx hb hw inB_X0 hown hE.K hP 0 rfl rfl 2 (by decide) (hw _ bw96) (fun _ h9 => h9) rfl dX0_yearDay_16 ?_
  refine lv_iload_n hx hb dX0_yearDay_19 rfl (lv_at hl 1 rfl) ?_
  refine va_iald (tys := gT G) hx hb hE.K hP 3 0 rfl rfl h0 dX0_yearDay_20 ?_
  refine lv_iadd hx hb dX0_yearDay_21 ?_
  exact re_i hx hb hr hk dX0_yearDay_22 (ei rfl)

set_option maxRecDepth 100000 in
set_option maxHeartbeats 4000000 in
theorem c_X0_monthCount (l : Launch) (G : GT) (a : Nat → Nat) (S : SX) (p0 : Int32) (h0 : vp_in p0 6) : RO l G yX0_monthCount cX0_monthCount 2 (some .long) 1 [.ref (a 0), .int p0] (wX G a S) (some (.long (fX0_monthCount S p0))) := by
  refine RO.ofW (own := RX0) rfl (by decide +kernel) (Nat.le_of_ble_eq_true rfl) ?_
  intro p e s m below meth c C hr hk hE hP ls hl
  have hx := C.1
  have hb := C.2.1
  have hown := C.2.2.2.1
  have hw := C.2.2.2.2
  have hl : lv_has ls 2 [(0, .ref (a 0)), (1, .int p0)] := hl
  refine lv_ldc2 (v := (12 : Int64)) hx hb hown (hw _ bw543) dX0_monthCount_0 ?_
  refine lv_aload_n hx hb dX0_monthCount_3 rfl (lv_at hl 0 rfl) ?_
  refine va_get (D := gD G) (cl := vwCl) (tys := gT G) (ci := 2) (v := .ref (a 1)) (C := RX0) (T := TX0) (N := 12) hx hb hw inB_X0 hown hE.K hP 0 rfl rfl 0 (by decide) (hw _ bw94) (fun _ h9 => h9) rfl dX0_monthCount_4 ?_
  refine lv_iload_n hx hb dX0_monthCount_7 rfl (lv_at hl 1 rfl) ?_
  refine va_iald (tys := gT G) hx hb hE.K hP 1 0 rfl rfl h0 dX0_monthCount_8 ?_
  refine lv_i2l (v := ((xy S p0.toNatClampNeg).toInt64)) hx hb dX0_monthCount_9 (by first | rfl | decide) ?_
  refine lv_lmul hx hb dX0_monthCount_10 ?_
  refine lv_aload_n hx hb dX0_monthCount_11 rfl (lv_at hl 0 rfl) ?_
  refine va_get (D := gD G) (cl := vwCl) (tys := gT G) (ci := 2) (v := .ref (a 2)) (C := RX0) (T := TX0) (N := 12) hx hb hw inB_X0 hown hE.K hP 0 rfl rfl 1 (by decide) (hw _ bw95) (fun _ h9 => h9) rfl dX0_monthCount_12 ?_
  refine lv_iload_n hx hb dX0_monthCount_15 rfl (lv_at hl 1 rfl) ?_
  refine va_iald (tys := gT G) hx hb hE.K hP 2 0 rfl rfl h0 dX0_monthCount_16 ?_
  refine lv_i2l (v := ((xm S p0.toNatClampNeg).toInt64)) hx hb dX0_monthCount_17 (by first | rfl | decide) ?_
  refine lv_ladd hx hb dX0_monthCount_18 ?_
  refine lv_lconst (v := (1 : Int64)) hx hb dX0_monthCount_19 (by decide) ?_
  refine lv_lsub hx hb dX0_monthCount_20 ?_
  exact re_l hx hb hr hk dX0_monthCount_21 (el rfl)

set_option maxRecDepth 100000 in
set_option maxHeartbeats 4000000 in
theorem c_X0_handTime (l : Launch) (G : GT) (a : Nat → Nat) (S : SX) (p0 : Int32) : RO l G yX0_handTime cX0_handTime 5 (some .long) 2 [.ref (a 0), .int p0] (wX G a S) (some (.long (fX0_handTime S p0))) := by
  refine RO.ofW (own := RX0) rfl (by decide +kernel) (Nat.le_of_ble_eq_true rfl) ?_
  intro p e s m below meth c C hr hk hE hP ls hl
  have hx := C.1
  have hb := C.2.1
  have hown := C.2.2.2.1
  have hw := C.2.2.2.2
  have hl : lv_has ls 5 [(0, .ref (a 0)), (1, .int p0)] := hl
  refine lv_iload_n hx hb dX0_handTime_0 rfl (lv_at hl 1 rfl) ?_
  refine lv_bipush (v := (6 : Int32)) hx hb dX0_handTime_1 (by decide) ?_
  refine lv_icmp_ne (tgt := 10) hx hb dX0_handTime_3 (by decide) (fun c_1 => ?_) (fun c_1 => ?_)
  · refine lv_iload_n hx hb dX0_handTime_10 rfl (lv_at hl 1 rfl) ?_
    refine lv_iconst (v := (3 : Int32)) hx hb dX0_handTime_11 (by decide) ?_
    refine lv_irem hx hb dX0_handTime_12 (by decide) ?_
    refine lv_istore_n (lv' := [(2, .int (p0 - p0 / (3 : Int32) * (3 : Int32))), (0, .ref (a 0)), (1, .int p0)]) hx hb dX0_handTime_13 rfl hl (Nat.le_of_ble_eq_true rfl) rfl (fun ls hl => ?_)
    refine lv_iload_n hx hb dX0_handTime_14 rfl (lv_at hl 0 rfl) ?_
    refine lv_iconst (v := (1 : Int32)) hx hb dX0_handTime_15 (by decide) ?_
    refine lv_icmp_lt (tgt := 26) hx hb dX0_handTime_16 (by decide) (fun c_2 => ?_) (fun c_2 => ?_)
    · refine lv_iconst (v := (0 : Int32)) hx hb dX0_handTime_26 (by decide) ?_
      refine lv_istore_n (lv' := [(3, .int (0 : Int32)), (2, .int (p0 - p0 / (3 : Int32) * (3 : Int32))), (0, .ref (a 0)), (1, .int p0)]) hx hb dX0_handTime_27 rfl hl (Nat.le_of_ble_eq_true rfl) rfl (fun ls hl => ?_)
      refine lv_iload_n hx hb dX0_handTime_28 rfl (lv_at hl 1 rfl) ?_
      refine lv_iconst (v := (2 : Int32)) hx hb dX0_handTime_29 (by decide) ?_
      refine lv_icmp_lt (tgt := 40) hx hb dX0_handTime_30 (by decide) (fun c_3 => ?_) (fun c_3 => ?_)
      · refine lv_iconst (v := (0 : Int32)) hx hb dX0_handTime_40 (by decide) ?_
        refine lv_istore (lv' := [(4, .int (0 : Int32)), (3, .int (0 : Int32)), (2, .int (p0 - p0 / (3 : Int32) * (3 : Int32))), (0, .ref (a 0)), (1, .int p0)]) hx hb dX0_handTime_41 hl (Nat.le_of_ble_eq_true rfl) rfl (fun ls hl => ?_)
        refine lv_aload_n hx hb dX0_handTime_43 rfl (lv_at hl 3 rfl) ?_
        refine va_get (D := gD G) (cl := vwCl) (tys := gT G) (ci := 2) (v := .int (xi S 0)) (C := RX0) (T := TX0) (N := 12) hx hb hw inB_X0 hown hE.K hP 0 rfl rfl 5 (by decide) (hw _ bw99) (fun _ h9 => h9) rfl dX0_handTime_44 ?_
        refine lv_aload_n hx hb dX0_handTime_47 rfl (lv_at hl 3 rfl) ?_
        refine va_get (D := gD G) (cl := vwCl) (tys := gT G) (ci := 2) (v := .int (xi S 1)) (C := RX0) (T := TX0) (N := 12) hx hb hw inB_X0 hown hE.K hP 0 rfl rfl 6 (by decide) (hw _ bw100) (fun _ h9 => h9) rfl dX0_handTime_48 ?_
        refine lv_iload_n hx hb dX0_handTime_51 rfl (lv_at hl 1 rfl) ?_
        refine lv_iload hx hb dX0_handTime_52 (lv_at hl 0 rfl) ?_
        refine rcSl (as := [.int (xi S 0), .int (xi S 1), .int (0 : Int32), .int (0 : Int32)]) (rest := []) C (c_X0_timeOf l G (xi S 0) (xi S 1) (0 : Int32) (0 : Int32)) F_X0_timeOf rfl bw164 bw165 hE vpn hl.1 dX0_handTime_54 ⟨Nat.le_of_ble_eq_true rfl, Nat.le_of_ble_eq_true rfl⟩ rfl (Nat.le_of_ble_eq_true rfl) ⟨Nat.zero_le _, Nat.zero_le _⟩ ?_
        exact re_l hx hb hr hk dX0_handTime_57 (el (Eq.trans (if_neg c_1) (Eq.trans (if_pos c_2) (if_pos c_3))))
      · refine lv_aload_n hx hb dX0_handTime_33 rfl (lv_at hl 2 rfl) ?_
        refine va_get (D := gD G) (cl := vwCl) (tys := gT G) (ci := 2) (v := .int (xi S 3)) (C := RX0) (T := TX0) (N := 12) hx hb hw inB_X0 hown hE.K hP 0 rfl rfl 8 (by decide) (hw _ bw102) (fun _ h9 => h9) rfl dX0_handTime_34 ?_
        refine lv_goto (tgt := 41) hx hb dX0_handTime_37 (by decide) ?_
        refine lv_istore (lv' := [(4, .int (xi S 3)), (3, .int (0 : Int32)), (2, .int (p0 - p0 / (3 : Int32) * (3 : Int32))), (0, .ref (a 0)), (1, .int p0)]) hx hb dX0_handTime_41 hl (Nat.le_of_ble_eq_true rfl) rfl (fun ls hl => ?_)
        refine lv_aload_n hx hb dX0_handTime_43 rfl (lv_at hl 3 rfl) ?_
        refine va_get (D := gD G) (cl := vwCl) (tys := gT G) (ci := 2) (v := .int (xi S 0)) (C := RX0) (T := TX0) (N := 12) hx hb hw inB_X0 hown hE.K hP 0 rfl rfl 5 (by decide) (hw _ bw99) (fun _ h9 => h9) rfl dX0_handTime_44 ?_
        refine lv_aload_n hx hb dX0_handTime_47 rfl (lv_at hl 3 rfl) ?_
        refine va_get (D := gD G) (cl := vwCl) (tys := gT G) (ci := 2) (v := .int (xi S 1)) (C := RX0) (T := TX0) (N := 12) hx hb hw inB_X0 hown hE.K hP 0 rfl rfl 6 (by decide) (hw _ bw100) (fun _ h9 => h9) rfl dX0_handTime_48 ?_
        refine lv_iload_n hx hb dX0_handTime_51 rfl (lv_at hl 1 rfl) ?_
        refine lv_iload hx hb dX0_handTime_52 (lv_at hl 0 rfl) ?_
        refine rcSl (as := [.int (xi S 0), .int (xi S 1), .int (0 : Int32), .int (xi S 3)]) (rest := []) C (c_X0_timeOf l G (xi S 0) (xi S 1) (0 : Int32) (xi S 3)) F_X0_timeOf rfl bw164 bw165 hE vpn hl.1 dX0_handTime_54 ⟨Nat.le_of_ble_eq_true rfl, Nat.le_of_ble_eq_true rfl⟩ rfl (Nat.le_of_ble_eq_true rfl) ⟨Nat.zero_le _, Nat.zero_le _⟩ ?_
        exact re_l hx hb hr hk dX0_handTime_57 (el (Eq.trans (if_neg c_1) (Eq.trans (if_pos c_2) (if_neg c_3))))
    · refine lv_aload_n hx hb dX0_handTime_19 rfl (lv_at hl 1 rfl) ?_
      refine va_get (D := gD G) (cl := vwCl) (tys := gT G) (ci := 2) (v := .int (xi S 2)) (C := RX0) (T := TX0) (N := 12) hx hb hw inB_X0 hown hE.K hP 0 rfl rfl 7 (by decide) (hw _ bw101) (fun _ h9 => h9) rfl dX0_handTime_20 ?_
      refine lv_goto (tgt := 27) hx hb dX0_handTime_23 (by decide) ?_
      refine lv_istore_n (lv' := [(3, .int (xi S 2)), (2, .int (p0 - p0 / (3 : Int32) * (3 : Int32))), (0, .ref (a 0)), (1, .int p0)]) hx hb dX0_handTime_27 rfl hl (Nat.le_of_ble_eq_true rfl) rfl (fun ls hl => ?_)
      refine lv_iload_n hx hb dX0_handTime_28 rfl (lv_at hl 1 rfl) ?_
      refine lv_iconst (v := (2 : Int32)) hx hb dX0_handTime_29 (by decide) ?_
      refine lv_icmp_lt (tgt := 40) hx hb dX0_handTime_30 (by decide) (fun c_4 => ?_) (fun c_4 => ?_)
      · refine lv_iconst (v := (0 : Int32)) hx hb dX0_handTime_40 (by decide) ?_
        refine lv_istore (lv' := [(4, .int (0 : Int32)), (3, .int (xi S 2)), (2, .int (p0 - p0 / (3 : Int32) * (3 : Int32))), (0, .ref (a 0)), (1, .int p0)]) hx hb dX0_handTime_41 hl (Nat.le_of_ble_eq_true rfl) rfl (fun ls hl => ?_)
        refine lv_aload_n hx hb dX0_handTime_43 rfl (lv_at hl 3 rfl) ?_
        refine va_get (D := gD G) (cl := vwCl) (tys := gT G) (ci := 2) (v := .int (xi S 0)) (C := RX0) (T := TX0) (N := 12) hx hb hw inB_X0 hown hE.K hP 0 rfl rfl 5 (by decide) (hw _ bw99) (fun _ h9 => h9) rfl dX0_handTime_44 ?_
        refine lv_aload_n hx hb dX0_handTime_47 rfl (lv_at hl 3 rfl) ?_
        refine va_get (D := gD G) (cl := vwCl) (tys := gT G) (ci := 2) (v := .int (xi S 1)) (C := RX0) (T := TX0) (N := 12) hx hb hw inB_X0 hown hE.K hP 0 rfl rfl 6 (by decide) (hw _ bw100) (fun _ h9 => h9) rfl dX0_handTime_48 ?_
        refine lv_iload_n hx hb dX0_handTime_51 rfl (lv_at hl 1 rfl) ?_
        refine lv_iload hx hb dX0_handTime_52 (lv_at hl 0 rfl) ?_
        refine rcSl (as := [.int (xi S 0), .int (xi S 1), .int (xi S 2), .int (0 : Int32)]) (rest := []) C (c_X0_timeOf l G (xi S 0) (xi S 1) (xi S 2) (0 : Int32)) F_X0_timeOf rfl bw164 bw165 hE vpn hl.1 dX0_handTime_54 ⟨Nat.le_of_ble_eq_true rfl, Nat.le_of_ble_eq_true rfl⟩ rfl (Nat.le_of_ble_eq_true rfl) ⟨Nat.zero_le _, Nat.zero_le _⟩ ?_
        exact re_l hx hb hr hk dX0_handTime_57 (el (Eq.trans (if_neg c_1) (Eq.trans (if_neg c_2) (if_pos c_4))))
      · refine lv_aload_n hx hb dX0_handTime_33 rfl (lv_at hl 2 rfl) ?_
        refine va_get (D := gD G) (cl := vwCl) (tys := gT G) (ci := 2) (v := .int (xi S 3)) (C := RX0) (T := TX0) (N := 12) hx hb hw inB_X0 hown hE.K hP 0 rfl rfl 8 (by decide) (hw _ bw102) (fun _ h9 => h9) rfl dX0_handTime_34 ?_
        refine lv_goto (tgt := 41) hx hb dX0_handTime_37 (by decide) ?_
        refine lv_istore (lv' := [(4, .int (xi S 3)), (3, .int (xi S 2)), (2, .int (p0 - p0 / (3 : Int32) * (3 : Int32))), (0, .ref (a 0)), (1, .int p0)]) hx hb dX0_handTime_41 hl (Nat.le_of_ble_eq_true rfl) rfl (fun ls hl => ?_)
        refine lv_aload_n hx hb dX0_handTime_43 rfl (lv_at hl 3 rfl) ?_
        refine va_get (D := gD G) (cl := vwCl) (tys := gT G) (ci := 2) (v := .int (xi S 0)) (C := RX0) (T := TX0) (N := 12) hx hb hw inB_X0 hown hE.K hP 0 rfl rfl 5 (by decide) (hw _ bw99) (fun _ h9 => h9) rfl dX0_handTime_44 ?_
        refine lv_aload_n hx hb dX0_handTime_47 rfl (lv_at hl 3 rfl) ?_
        refine va_get (D := gD G) (cl := vwCl) (tys := gT G) (ci := 2) (v := .int (xi S 1)) (C := RX0) (T := TX0) (N := 12) hx hb hw inB_X0 hown hE.K hP 0 rfl rfl 6 (by decide) (hw _ bw100) (fun _ h9 => h9) rfl dX0_handTime_48 ?_
        refine lv_iload_n hx hb dX0_handTime_51 rfl (lv_at hl 1 rfl) ?_
        refine lv_iload hx hb dX0_handTime_52 (lv_at hl 0 rfl) ?_
        refine rcSl (as := [.int (xi S 0), .int (xi S 1), .int (xi S 2), .int (xi S 3)]) (rest := []) C (c_X0_timeOf l G (xi S 0) (xi S 1) (xi S 2) (xi S 3)) F_X0_timeOf rfl bw164 bw165 hE vpn hl.1 dX0_handTime_54 ⟨Nat.le_of_ble_eq_true rfl, Nat.le_of_ble_eq_true rfl⟩ rfl (Nat.le_of_ble_eq_true rfl) ⟨Nat.zero_le _, Nat.zero_le _⟩ ?_
        exact re_l hx hb hr hk dX0_handTime_57 (el (Eq.trans (if_neg c_1) (Eq.trans (if_neg c_2) (if_neg c_4))))
  · refine lv_iconst (v := (2 : Int32)) hx hb dX0_handTime_6 (by decide) ?_
    refine lv_goto (tgt := 13) hx hb dX0_handTime_7 (by decide) ?_
    refine lv_istore_n (lv' := [(2, .int (2 : Int32)), (0, .ref (a 0)), (1, .int p0)]) hx hb dX0_handTime_13 rfl hl (Nat.le_of_ble_eq_true rfl) rfl (fun ls hl => ?_)
    refine lv_iload_n hx hb dX0_handTime_14 rfl (lv_at hl 0 rfl) ?_
    refine lv_iconst (v := (1 : Int32)) hx hb dX0_handTime_15 (by decide) ?_
    refine lv_icmp_lt (tgt := 26) hx hb dX0_handTime_16 (by decide) (fun c_x => absurd c_x (by decide)) (fun _ => ?_)
    refine lv_aload_n hx hb dX0_handTime_19 rfl (lv_at hl 1 rfl) ?_
    refine va_get (D := gD G) (cl := vwCl) (tys := gT G) (ci := 2) (v := .int (xi S 2)) (C := RX0) (T := TX0) (N := 12) hx hb hw inB_X0 hown hE.K hP 0 rfl rfl 7 (by decide) (hw _ bw101) (fun _ h9 => h9) rfl dX0_handTime_20 ?_
    refine lv_goto (tgt := 27) hx hb dX0_handTime_23 (by decide) ?_
    refine lv_istore_n (lv' := [(3, .int (xi S 2)), (2, .int (2 : Int32)), (0, .ref (a 0)), (1, .int p0)]) hx hb dX0_handTime_27 rfl hl (Nat.le_of_ble_eq_true rfl) rfl (fun ls hl => ?_)
    refine lv_iload_n hx hb dX0_handTime_28 rfl (lv_at hl 1 rfl) ?_
    refine lv_iconst (v := (2 : Int32)) hx hb dX0_handTime_29 (by decide) ?_
    refine lv_icmp_lt (tgt := 40) hx hb dX0_handTime_30 (by decide) (fun c_x => absurd c_x (by decide)) (fun _ => ?_)
    refine lv_aload_n hx hb dX0_handTime_33 rfl (lv_at hl 2 rfl) ?_
    refine va_get (D := gD G) (cl := vwCl) (tys := gT G) (ci := 2) (v := .int (xi S 3)) (C := RX0) (T := TX0) (N := 12) hx hb hw inB_X0 hown hE.K hP 0 rfl rfl 8 (by decide) (hw _ bw102) (fun _ h9 => h9) rfl dX0_handTime_34 ?_
    refine lv_goto (tgt := 41) hx hb dX0_handTime_37 (by decide) ?_
    refine lv_istore (lv' := [(4, .int (xi S 3)), (3, .int (xi S 2)), (2, .int (2 : Int32)), (0, .ref (a 0)), (1, .int p0)]) hx hb dX0_handTime_41 hl (Nat.le_of_ble_eq_true rfl) rfl (fun ls hl => ?_)
    refine lv_aload_n hx hb dX0_handTime_43 rfl (lv_at hl 3 rfl) ?_
    refine va_get (D := gD G) (cl := vwCl) (tys := gT G) (ci := 2) (v := .int (xi S 0)) (C := RX0) (T := TX0) (N := 12) hx hb hw inB_X0 hown hE.K hP 0 rfl rfl 5 (by decide) (hw _ bw99) (fun _ h9 => h9) rfl dX0_handTime_44 ?_
    refine lv_aload_n hx hb dX0_handTime_47 rfl (lv_at hl 3 rfl) ?_
    refine va_get (D := gD G) (cl := vwCl) (tys := gT G) (ci := 2) (v := .int (xi S 1)) (C := RX0) (T := TX0) (N := 12) hx hb hw inB_X0 hown hE.K hP 0 rfl rfl 6 (by decide) (hw _ bw100) (fun _ h9 => h9) rfl dX0_handTime_48 ?_
    refine lv_iload_n hx hb dX0_handTime_51 rfl (lv_at hl 1 rfl) ?_
    refine lv_iload hx hb dX0_handTime_52 (lv_at hl 0 rfl) ?_
    refine rcSl (as := [.int (xi S 0), .int (xi S 1), .int (xi S 2), .int (xi S 3)]) (rest := []) C (c_X0_timeOf l G (xi S 0) (xi S 1) (xi S 2) (xi S 3)) F_X0_timeOf rfl bw164 bw165 hE vpn hl.1 dX0_handTime_54 ⟨Nat.le_of_ble_eq_true rfl, Nat.le_of_ble_eq_true rfl⟩ rfl (Nat.le_of_ble_eq_true rfl) ⟨Nat.zero_le _, Nat.zero_le _⟩ ?_
    exact re_l hx hb hr hk dX0_handTime_57 (el (if_pos c_1))

set_option maxRecDepth 100000 in
set_option maxHeartbeats 4000000 in
theorem c_X0_order (l : Launch) (G : GT) (a : Nat → Nat) (S : SX) (p0 : Int32) (p1 : Int32) (h0 : vp_in p0 6) (h1 : vp_in p1 6) : RO l G yX0_order cX0_order 3 (some .int) 1 [.ref (a 0), .int p0, .int p1] (wX G a S) (some (.int (fX0_order S p0 p1))) := by
  refine RO.ofW (own := RX0) rfl (by decide +kernel) (Nat.le_of_ble_eq_true rfl) ?_
  intro p e s m below meth c C hr hk hE hP ls hl
  have hx := C.1
  have hb := C.2.1
  have hown := C.2.2.2.1
  have hw := C.2.2.2.2
  have hl : lv_has ls 3 [(0, .ref (a 0)), (1, .int p0), (2, .int p1)] := hl
  refine lv_aload_n hx hb dX0_order_0 rfl (lv_at hl 0 rfl) ?_
  refine va_get (D := gD G) (cl := vwCl) (tys := gT G) (ci := 2) (v := .ref (a 4)) (C := RX0) (T := TX0) (N := 12) hx hb hw inB_X0 hown hE.K hP 0 rfl rfl 3 (by decide) (hw _ bw97) (fun _ h9 => h9) rfl dX0_order_1 ?_
  refine lv_iload_n hx hb dX0_order_4 rfl (lv_at hl 1 rfl) ?_
  refine va_lald (tys := gT G) hx hb hE.K hP 4 1 rfl rfl h0 dX0_order_5 ?_
  refine lv_aload_n hx hb dX0_order_6 rfl (lv_at hl 0 rfl) ?_
  refine va_get (D := gD G) (cl := vwCl) (tys := gT G) (ci := 2) (v := .ref (a 4)) (C := RX0) (T := TX0) (N := 12) hx hb hw inB_X0 hown hE.K hP 0 rfl rfl 3 (by decide) (hw _ bw97) (fun _ h9 => h9) rfl dX0_order_7 ?_
  refine lv_iload_n hx hb dX0_order_10 rfl (lv_at hl 2 rfl) ?_
  refine va_lald (tys := gT G) hx hb hE.K hP 4 1 rfl rfl h1 dX0_order_11 ?_
  refine W.lcmp hx hb dX0_order_12 ?_
  refine lv_if_eq (tgt := 38) hx hb dX0_order_13 (by decide) (fun c_1 => ?_) (fun c_1 => ?_)
  · refine lv_aload_n hx hb dX0_order_38 rfl (lv_at hl 0 rfl) ?_
    refine va_get (D := gD G) (cl := vwCl) (tys := gT G) (ci := 2) (v := .ref (a 5)) (C := RX0) (T := TX0) (N := 12) hx hb hw inB_X0 hown hE.K hP 0 rfl rfl 4 (by decide) (hw _ bw98) (fun _ h9 => h9) rfl dX0_order_39 ?_
    refine lv_iload_n hx hb dX0_order_42 rfl (lv_at hl 1 rfl) ?_
    refine va_lald (tys := gT G) hx hb hE.K hP 5 1 rfl rfl h0 dX0_order_43 ?_
    refine lv_aload_n hx hb dX0_order_44 rfl (lv_at hl 0 rfl) ?_
    refine va_get (D := gD G) (cl := vwCl) (tys := gT G) (ci := 2) (v := .ref (a 5)) (C := RX0) (T := TX0) (N := 12) hx hb hw inB_X0 hown hE.K hP 0 rfl rfl 4 (by decide) (hw _ bw98) (fun _ h9 => h9) rfl dX0_order_45 ?_
    refine lv_iload_n hx hb dX0_order_48 rfl (lv_at hl 2 rfl) ?_
    refine va_lald (tys := gT G) hx hb hE.K hP 5 1 rfl rfl h1 dX0_order_49 ?_
    refine W.lcmp hx hb dX0_order_50 ?_
    refine lv_if_eq (tgt := 76) hx hb dX0_order_51 (by decide) (fun c_2 => ?_) (fun c_2 => ?_)
    · refine lv_iconst (v := (0 : Int32)) hx hb dX0_order_76 (by decide) ?_
      exact re_i hx hb hr hk dX0_order_77 (ei (Eq.trans (if_pos c_1) (if_pos c_2)))
    · refine lv_aload_n hx hb dX0_order_54 rfl (lv_at hl 0 rfl) ?_
      refine va_get (D := gD G) (cl := vwCl) (tys := gT G) (ci := 2) (v := .ref (a 5)) (C := RX0) (T := TX0) (N := 12) hx hb hw inB_X0 hown hE.K hP 0 rfl rfl 4 (by decide) (hw _ bw98) (fun _ h9 => h9) rfl dX0_order_55 ?_
      refine lv_iload_n hx hb dX0_order_58 rfl (lv_at hl 1 rfl) ?_
      refine va_lald (tys := gT G) hx hb hE.K hP 5 1 rfl rfl h0 dX0_order_59 ?_
      refine lv_aload_n hx hb dX0_order_60 rfl (lv_at hl 0 rfl) ?_
      refine va_get (D := gD G) (cl := vwCl) (tys := gT G) (ci := 2) (v := .ref (a 5)) (C := RX0) (T := TX0) (N := 12) hx hb hw inB_X0 hown hE.K hP 0 rfl rfl 4 (by decide) (hw _ bw98) (fun _ h9 => h9) rfl dX0_order_61 ?_
      refine lv_iload_n hx hb dX0_order_64 rfl (lv_at hl 2 rfl) ?_
      refine va_lald (tys := gT G) hx hb hE.K hP 5 1 rfl rfl h1 dX0_order_65 ?_
      refine W.lcmp hx hb dX0_order_66 ?_
      refine lv_if_ge (tgt := 74) hx hb dX0_order_67 (by decide) (fun c_3 => ?_) (fun c_3 => ?_)
      · refine lv_iconst (v := (1 : Int32)) hx hb dX0_order_74 (by decide) ?_
        exact re_i hx hb hr hk dX0_order_75 (ei (Eq.trans (if_pos c_1) (Eq.trans (if_neg c_2) (if_pos c_3))))
      · refine lv_iconst (v := (-1 : Int32)) hx hb dX0_order_70 (by decide) ?_
        refine lv_goto (tgt := 75) hx hb dX0_order_71 (by decide) ?_
        exact re_i hx hb hr hk dX0_order_75 (ei (Eq.trans (if_pos c_1) (Eq.trans (if_neg c_2) (if_neg c_3))))
  · refine lv_aload_n hx hb dX0_order_16 rfl (lv_at hl 0 rfl) ?_
    refine va_get (D := gD G) (cl := vwCl) (tys := gT G) (ci := 2) (v := .ref (a 4)) (C := RX0) (T := TX0) (N := 12) hx hb hw inB_X0 hown hE.K hP 0 rfl rfl 3 (by decide) (hw _ bw97) (fun _ h9 => h9) rfl dX0_order_17 ?_
    refine lv_iload_n hx hb dX0_order_20 rfl (lv_at hl 1 rfl) ?_
    refine va_lald (tys := gT G) hx hb hE.K hP 4 1 rfl rfl h0 dX0_order_21 ?_
    refine lv_aload_n hx hb dX0_order_22 rfl (lv_at hl 0 rfl) ?_
    refine va_get (D := gD G) (cl := vwCl) (tys := gT G) (ci := 2) (v := .ref (a 4)) (C := RX0) (T := TX0) (N := 12) hx hb hw inB_X0 hown hE.K hP 0 rfl rfl 3 (by decide) (hw _ bw97) (fun _ h9 => h9) rfl dX0_order_23 ?_
    refine lv_iload_n hx hb dX0_order_26 rfl (lv_at hl 2 rfl) ?_
    refine va_lald (tys := gT G) hx hb hE.K hP 4 1 rfl rfl h1 dX0_order_27 ?_
    refine W.lcmp hx hb dX0_order_28 ?_
    refine lv_if_ge (tgt := 36) hx hb dX0_order_29 (by decide) (fun c_4 => ?_) (fun c_4 => ?_)
    · refine lv_iconst (v := (1 : Int32)) hx hb dX0_order_36 (by decide) ?_
      exact re_i hx hb hr hk dX0_order_37 (ei (Eq.trans (if_neg c_1) (if_pos c_4)))
    · refine lv_iconst (v := (-1 : Int32)) hx hb dX0_order_32 (by decide) ?_
      refine lv_goto (tgt := 37) hx hb dX0_order_33 (by decide) ?_
      exact re_i hx hb hr hk dX0_order_37 (ei (Eq.trans (if_neg c_1) (if_neg c_4)))

set_option maxRecDepth 100000 in
set_option maxHeartbeats 4000000 in
theorem c_X0_isSameLine (l : Launch) (G : GT) (a : Nat → Nat) (S : SX) (p0 : Int32) (p1 : Int32) (h0 : vp_in p0 6) (h1 : vp_in p1 6) : RO l G yX0_isSameLine cX0_isSameLine 3 (some .boolean) 1 [.ref (a 0), .int p0, .int p1] (wX G a S) (some (.int (fX0_isSameLine S p0 p1))) := by
  refine RO.ofW (own := RX0) rfl (by decide +kernel) (Nat.le_of_ble_eq_true rfl) ?_
  intro p e s m below meth c C hr hk hE hP ls hl
  have hx := C.1
  have hb := C.2.1
  have hown := C.2.2.2.1
  have hw := C.2.2.2.2
  have hl : lv_has ls 3 [(0, .ref (a 0)), (1, .int p0), (2, .int p1)] := hl
  refine lv_aload_n hx hb dX0_isSameLine_0 rfl (lv_at hl 0 rfl) ?_
  refine va_get (D := gD G) (cl := vwCl) (tys := gT G) (ci := 2) (v := .ref (a 4)) (C := RX0) (T := TX0) (N := 12) hx hb hw inB_X0 hown hE.K hP 0 rfl rfl 3 (by decide) (hw _ bw97) (fun _ h9 => h9) rfl dX0_isSameLine_1 ?_
  refine lv_iload_n hx hb dX0_isSameLine_4 rfl (lv_at hl 1 rfl) ?_
  refine va_lald (tys := gT G) hx hb hE.K hP 4 1 rfl rfl h0 dX0_isSameLine_5 ?_
  refine lv_aload_n hx hb dX0_isSameLine_6 rfl (lv_at hl 0 rfl) ?_
  refine va_get (D := gD G) (cl := vwCl) (tys := gT G) (ci := 2) (v := .ref (a 4)) (C := RX0) (T := TX0) (N := 12) hx hb hw inB_X0 hown hE.K hP 0 rfl rfl 3 (by decide) (hw _ bw97) (fun _ h9 => h9) rfl dX0_isSameLine_7 ?_
  refine lv_iload_n hx hb dX0_isSameLine_10 rfl (lv_at hl 2 rfl) ?_
  refine va_lald (tys := gT G) hx hb hE.K hP 4 1 rfl rfl h1 dX0_isSameLine_11 ?_
  refine W.lcmp hx hb dX0_isSameLine_12 ?_
  refine lv_if_ne (tgt := 36) hx hb dX0_isSameLine_13 (by decide) (fun c_1 => ?_) (fun c_1 => ?_)
  · refine lv_iconst (v := (0 : Int32)) hx hb dX0_isSameLine_36 (by decide) ?_
    exact re_z (ty := .boolean) hx hb hr hk (by decide) dX0_isSameLine_37 (ei (if_neg c_1))
  · refine lv_aload_n hx hb dX0_isSameLine_16 rfl (lv_at hl 0 rfl) ?_
    refine va_get (D := gD G) (cl := vwCl) (tys := gT G) (ci := 2) (v := .ref (a 5)) (C := RX0) (T := TX0) (N := 12) hx hb hw inB_X0 hown hE.K hP 0 rfl rfl 4 (by decide) (hw _ bw98) (fun _ h9 => h9) rfl dX0_isSameLine_17 ?_
    refine lv_iload_n hx hb dX0_isSameLine_20 rfl (lv_at hl 1 rfl) ?_
    refine va_lald (tys := gT G) hx hb hE.K hP 5 1 rfl rfl h0 dX0_isSameLine_21 ?_
    refine lv_aload_n hx hb dX0_isSameLine_22 rfl (lv_at hl 0 rfl) ?_
    refine va_get (D := gD G) (cl := vwCl) (tys := gT G) (ci := 2) (v := .ref (a 5)) (C := RX0) (T := TX0) (N := 12) hx hb hw inB_X0 hown hE.K hP 0 rfl rfl 4 (by decide) (hw _ bw98) (fun _ h9 => h9) rfl dX0_isSameLine_23 ?_
    refine lv_iload_n hx hb dX0_isSameLine_26 rfl (lv_at hl 2 rfl) ?_
    refine va_lald (tys := gT G) hx hb hE.K hP 5 1 rfl rfl h1 dX0_isSameLine_27 ?_
    refine W.lcmp hx hb dX0_isSameLine_28 ?_
    refine lv_if_ne (tgt := 36) hx hb dX0_isSameLine_29 (by decide) (fun c_2 => ?_) (fun c_2 => ?_)
    · refine lv_iconst (v := (0 : Int32)) hx hb dX0_isSameLine_36 (by decide) ?_
      exact re_z (ty := .boolean) hx hb hr hk (by decide) dX0_isSameLine_37 (ei (Eq.trans (if_pos c_1) (if_neg c_2)))
    · refine lv_iconst (v := (1 : Int32)) hx hb dX0_isSameLine_32 (by decide) ?_
      refine lv_goto (tgt := 37) hx hb dX0_isSameLine_33 (by decide) ?_
      exact re_z (ty := .boolean) hx hb hr hk (by decide) dX0_isSameLine_37 (ei (Eq.trans (if_pos c_1) (if_pos c_2)))

set_option maxRecDepth 100000 in
set_option maxHeartbeats 4000000 in
theorem c_X0_isGapRefused (l : Launch) (G : GT) (a : Nat → Nat) (S : SX) (p0 : Int32) (p1 : Int32) (p2 : Int32) (h0 : vp_in p0 6) (h1 : vp_in p1 6) : RO l G yX0_isGapRefused cX0_isGapRefused 4 (some .boolean) 2 [.ref (a 0), .int p0, .int p1, .int p2] (wX G a S) (some (.int (fX0_isGapRefused S p0 p1 p2))) := by
  refine RO.ofW (own := RX0) rfl (by decide +kernel) (Nat.le_of_ble_eq_true rfl) ?_
  intro p e s m below meth c C hr hk hE hP ls hl
  have hx := C.1
  have hb := C.2.1
  have hown := C.2.2.2.1
  have hw := C.2.2.2.2
  have hl : lv_has ls 4 [(0, .ref (a 0)), (1, .int p0), (2, .int p1), (3, .int p2)] := hl
  refine lv_iload_n hx hb dX0_isGapRefused_0 rfl (lv_at hl 3 rfl) ?_
  refine lv_if_ne (tgt := 33) hx hb dX0_isGapRefused_1 (by decide) (fun c_1 => ?_) (fun c_1 => ?_)
  · refine lv_iload_n hx hb dX0_isGapRefused_33 rfl (lv_at hl 3 rfl) ?_
    refine lv_bipush (v := (9 : Int32)) hx hb dX0_isGapRefused_34 (by decide) ?_
    refine lv_icmp_lt (tgt := 65) hx hb dX0_isGapRefused_36 (by decide) (fun c_2 => ?_) (fun c_2 => ?_)
    · refine lv_iconst (v := (0 : Int32)) hx hb dX0_isGapRefused_65 (by decide) ?_
      exact re_z (ty := .boolean) hx hb hr hk (by decide) dX0_isGapRefused_66 (ei (Eq.trans (if_neg c_1) (if_pos c_2)))
    · refine lv_aload_n hx hb dX0_isGapRefused_39 rfl (lv_at hl 0 rfl) ?_
      refine va_get (D := gD G) (cl := vwCl) (tys := gT G) (ci := 2) (v := .ref (a 3)) (C := RX0) (T := TX0) (N := 12) hx hb hw inB_X0 hown hE.K hP 0 rfl rfl 2 (by decide) (hw _ bw96) (fun _ h9 => h9) rfl dX0_isGapRefused_40 ?_
      refine lv_iload_n hx hb dX0_isGapRefused_43 rfl (lv_at hl 1 rfl) ?_
      refine va_iald (tys := gT G) hx hb hE.K hP 3 0 rfl rfl h0 dX0_isGapRefused_44 ?_
      refine lv_bipush (v := (28 : Int32)) hx hb dX0_isGapRefused_45 (by decide) ?_
      refine lv_icmp_gt (tgt := 61) hx hb dX0_isGapRefused_47 (by decide) (fun c_3 => ?_) (fun c_3 => ?_)
      · refine lv_iconst (v := (1 : Int32)) hx hb dX0_isGapRefused_61 (by decide) ?_
        refine lv_goto (tgt := 66) hx hb dX0_isGapRefused_62 (by decide) ?_
        exact re_z (ty := .boolean) hx hb hr hk (by decide) dX0_isGapRefused_66 (ei (Eq.trans (if_neg c_1) (Eq.trans (if_neg c_2) (if_pos c_3))))
      · refine lv_aload_n hx hb dX0_isGapRefused_50 rfl (lv_at hl 0 rfl) ?_
        refine va_get (D := gD G) (cl := vwCl) (tys := gT G) (ci := 2) (v := .ref (a 3)) (C := RX0) (T := TX0) (N := 12) hx hb hw inB_X0 hown hE.K hP 0 rfl rfl 2 (by decide) (hw _ bw96) (fun _ h9 => h9) rfl dX0_isGapRefused_51 ?_
        refine lv_iload_n hx hb dX0_isGapRefused_54 rfl (lv_at hl 2 rfl) ?_
        refine va_iald (tys := gT G) hx hb hE.K hP 3 0 rfl rfl h1 dX0_isGapRefused_55 ?_
        refine lv_bipush (v := (28 : Int32)) hx hb dX0_isGapRefused_56 (by decide) ?_
        refine lv_icmp_le (tgt := 65) hx hb dX0_isGapRefused_58 (by decide) (fun c_4 => ?_) (fun c_4 => ?_)
        · refine lv_iconst (v := (0 : Int32)) hx hb dX0_isGapRefused_65 (by decide) ?_
          exact re_z (ty := .boolean) hx hb hr hk (by decide) dX0_isGapRefused_66 (ei (Eq.trans (if_neg c_1) (Eq.trans (if_neg c_2) (Eq.trans (if_neg c_3) (if_pos c_4)))))
        · refine lv_iconst (v := (1 : Int32)) hx hb dX0_isGapRefused_61 (by decide) ?_
          refine lv_goto (tgt := 66) hx hb dX0_isGapRefused_62 (by decide) ?_
          exact re_z (ty := .boolean) hx hb hr hk (by decide) dX0_isGapRefused_66 (ei (Eq.trans (if_neg c_1) (Eq.trans (if_neg c_2) (Eq.trans (if_neg c_3) (if_neg c_4)))))
  · refine lv_aload_n hx hb dX0_isGapRefused_4 rfl (lv_at hl 0 rfl) ?_
    refine va_get (D := gD G) (cl := vwCl) (tys := gT G) (ci := 2) (v := .ref (a 4)) (C := RX0) (T := TX0) (N := 12) hx hb hw inB_X0 hown hE.K hP 0 rfl rfl 3 (by decide) (hw _ bw97) (fun _ h9 => h9) rfl dX0_isGapRefused_5 ?_
    refine lv_iload_n hx hb dX0_isGapRefused_8 rfl (lv_at hl 2 rfl) ?_
    refine va_lald (tys := gT G) hx hb hE.K hP 4 1 rfl rfl h1 dX0_isGapRefused_9 ?_
    refine lv_aload_n hx hb dX0_isGapRefused_10 rfl (lv_at hl 0 rfl) ?_
    refine va_get (D := gD G) (cl := vwCl) (tys := gT G) (ci := 2) (v := .ref (a 4)) (C := RX0) (T := TX0) (N := 12) hx hb hw inB_X0 hown hE.K hP 0 rfl rfl 3 (by decide) (hw _ bw97) (fun _ h9 => h9) rfl dX0_isGapRefused_11 ?_
    refine lv_iload_n hx hb dX0_isGapRefused_14 rfl (lv_at hl 1 rfl) ?_
    refine va_lald (tys := gT G) hx hb hE.K hP 4 1 rfl rfl h0 dX0_isGapRefused_15 ?_
    refine lv_lsub hx hb dX0_isGapRefused_16 ?_
    refine rcSl (as := [.long ((xD S p1.toNatClampNeg) - (xD S p0.toNatClampNeg))]) (rest := []) C (c_J9_abs_067f4 l G ((xD S p1.toNatClampNeg) - (xD S p0.toNatClampNeg))) F_J9_abs_067f4 rfl bw809 bw810 hE vpn hl.1 dX0_isGapRefused_17 ⟨Nat.le_of_ble_eq_true rfl, Nat.le_of_ble_eq_true rfl⟩ rfl (Nat.le_of_ble_eq_true rfl) ⟨Nat.zero_le _, Nat.zero_le _⟩ ?_
    refine lv_ldc2 (v := (100000 : Int64)) hx hb hown (hw _ bw1133) dX0_isGapRefused_20 ?_
    refine W.lcmp hx hb dX0_isGapRefused_23 ?_
    refine lv_if_le (tgt := 31) hx hb dX0_isGapRefused_24 (by decide) (fun c_5 => ?_) (fun c_5 => ?_)
    · refine lv_iconst (v := (0 : Int32)) hx hb dX0_isGapRefused_31 (by decide) ?_
      exact re_z (ty := .boolean) hx hb hr hk (by decide) dX0_isGapRefused_32 (ei (Eq.trans (if_pos c_1) (if_pos c_5)))
    · refine lv_iconst (v := (1 : Int32)) hx hb dX0_isGapRefused_27 (by decide) ?_
      refine lv_goto (tgt := 32) hx hb dX0_isGapRefused_28 (by decide) ?_
      exact re_z (ty := .boolean) hx hb hr hk (by decide) dX0_isGapRefused_32 (ei (Eq.trans (if_pos c_1) (if_neg c_5)))

set_option maxRecDepth 100000 in
set_option maxHeartbeats 4000000 in
theorem c_X0_gapInUnits (l : Launch) (G : GT) (a : Nat → Nat) (S : SX) (p0 : Int32) (p1 : Int32) (p2 : Int32) (h0 : vp_in p0 6) (h1 : vp_in p1 6) : RO l G yX0_gapInUnits cX0_gapInUnits 10 (some .long) 2 [.ref (a 0), .int p0, .int p1, .int p2] (wX G a S) (some (.long (fX0_gapInUnits S p0 p1 p2))) := by
  refine RO.ofW (own := RX0) rfl (by decide +kernel) (Nat.le_of_ble_eq_true rfl) ?_
  intro p e s m below meth c C hr hk hE hP ls hl
  have hx := C.1
  have hb := C.2.1
  have hown := C.2.2.2.1
  have hw := C.2.2.2.2
  have hl : lv_has ls 10 [(0, .ref (a 0)), (1, .int p0), (2, .int p1), (3, .int p2)] := hl
  refine lv_aload_n hx hb dX0_gapInUnits_0 rfl (lv_at hl 0 rfl) ?_
  refine va_get (D := gD G) (cl := vwCl) (tys := gT G) (ci := 2) (v := .ref (a 4)) (C := RX0) (T := TX0) (N := 12) hx hb hw inB_X0 hown hE.K hP 0 rfl rfl 3 (by decide) (hw _ bw97) (fun _ h9 => h9) rfl dX0_gapInUnits_1 ?_
  refine lv_iload_n hx hb dX0_gapInUnits_4 rfl (lv_at hl 2 rfl) ?_
  refine va_lald (tys := gT G) hx hb hE.K hP 4 1 rfl rfl h1 dX0_gapInUnits_5 ?_
  refine lv_aload_n hx hb dX0_gapInUnits_6 rfl (lv_at hl 0 rfl) ?_
  refine va_get (D := gD G) (cl := vwCl) (tys := gT G) (ci := 2) (v := .ref (a 4)) (C := RX0) (T := TX0) (N := 12) hx hb hw inB_X0 hown hE.K hP 0 rfl rfl 3 (by decide) (hw _ bw97) (fun _ h9 => h9) rfl dX0_gapInUnits_7 ?_
  refine lv_iload_n hx hb dX0_gapInUnits_10 rfl (lv_at hl 1 rfl) ?_
  refine va_lald (tys := gT G) hx hb hE.K hP 4 1 rfl rfl h0 dX0_gapInUnits_11 ?_
  refine lv_lsub hx hb dX0_gapInUnits_12 ?_
  refine lv_lstore (lv' := [(4, .long ((xD S p1.toNatClampNeg) - (xD S p0.toNatClampNeg))), (0, .ref (a 0)), (1, .int p0), (2, .int p1), (3, .int p2)]) hx hb dX0_gapInUnits_13 hl (Nat.le_of_ble_eq_true rfl) rfl (fun ls hl => ?_)
  refine lv_aload_n hx hb dX0_gapInUnits_15 rfl (lv_at hl 1 rfl) ?_
  refine va_get (D := gD G) (cl := vwCl) (tys := gT G) (ci := 2) (v := .ref (a 5)) (C := RX0) (T := TX0) (N := 12) hx hb hw inB_X0 hown hE.K hP 0 rfl rfl 4 (by decide) (hw _ bw98) (fun _ h9 => h9) rfl dX0_gapInUnits_16 ?_
  refine lv_iload_n hx hb dX0_gapInUnits_19 rfl (lv_at hl 3 rfl) ?_
  refine va_lald (tys := gT G) hx hb hE.K hP 5 1 rfl rfl h1 dX0_gapInUnits_20 ?_
  refine lv_aload_n hx hb dX0_gapInUnits_21 rfl (lv_at hl 1 rfl) ?_
  refine va_get (D := gD G) (cl := vwCl) (tys := gT G) (ci := 2) (v := .ref (a 5)) (C := RX0) (T := TX0) (N := 12) hx hb hw inB_X0 hown hE.K hP 0 rfl rfl 4 (by decide) (hw _ bw98) (fun _ h9 => h9) rfl dX0_gapInUnits_22 ?_
  refine lv_iload_n hx hb dX0_gapInUnits_25 rfl (lv_at hl 2 rfl) ?_
  refine va_lald (tys := gT G) hx hb hE.K hP 5 1 rfl rfl h0 dX0_gapInUnits_26 ?_
  refine lv_lsub hx hb dX0_gapInUnits_27 ?_
  refine lv_lstore (lv' := [(6, .long ((xN S p1.toNatClampNeg) - (xN S p0.toNatClampNeg))), (4, .long ((xD S p1.toNatClampNeg) - (xD S p0.toNatClampNeg))), (0, .ref (a 0)), (1, .int p0), (2, .int p1), (3, .int p2)]) hx hb dX0_gapInUnits_28 hl (Nat.le_of_ble_eq_true rfl) rfl (fun ls hl => ?_)
  refine lv_lload hx hb dX0_gapInUnits_30 (lv_at hl 1 rfl) ?_
  refine lv_lconst (v := (0 : Int64)) hx hb dX0_gapInUnits_32 (by decide) ?_
  refine W.lcmp hx hb dX0_gapInUnits_33 ?_
  refine lv_if_le (tgt := 61) hx hb dX0_gapInUnits_34 (by decide) (fun c_1 => ?_) (fun c_1 => ?_)
  · refine lv_lload hx hb dX0_gapInUnits_61 (lv_at hl 1 rfl) ?_
    refine lv_lconst (v := (0 : Int64)) hx hb dX0_gapInUnits_63 (by decide) ?_
    refine W.lcmp hx hb dX0_gapInUnits_64 ?_
    refine lv_if_ge (tgt := 89) hx hb dX0_gapInUnits_65 (by decide) (fun c_2 => ?_) (fun c_2 => ?_)
    · refine lv_iload_n hx hb dX0_gapInUnits_89 rfl (lv_at hl 5 rfl) ?_
      refine lv_bipush (v := (8 : Int32)) hx hb dX0_gapInUnits_90 (by decide) ?_
      refine lv_icmp_ne (tgt := 102) hx hb dX0_gapInUnits_92 (by decide) (fun c_3 => ?_) (fun c_3 => ?_)
      · refine lv_iload_n hx hb dX0_gapInUnits_102 rfl (lv_at hl 5 rfl) ?_
        refine rcSl (as := [.int p2]) (rest := []) C (c_X0_nanosOfUnit l G p2) F_X0_nanosOfUnit rfl bw223 bw224 hE vpn hl.1 dX0_gapInUnits_103 ⟨Nat.le_of_ble_eq_true rfl, Nat.le_of_ble_eq_true rfl⟩ rfl (Nat.le_of_ble_eq_true rfl) ⟨Nat.zero_le _, Nat.zero_le _⟩ ?_
        refine lv_lstore (lv' := [(8, .long (fX0_nanosOfUnit p2)), (6, .long ((xN S p1.toNatClampNeg) - (xN S p0.toNatClampNeg))), (4, .long ((xD S p1.toNatClampNeg) - (xD S p0.toNatClampNeg))), (0, .ref (a 0)), (1, .int p0), (2, .int p1), (3, .int p2)]) hx hb dX0_gapInUnits_106 hl (Nat.le_of_ble_eq_true rfl) rfl (fun ls hl => ?_)
        refine lv_lload hx hb dX0_gapInUnits_108 (lv_at hl 2 rfl) ?_
        refine lv_ldc2 (v := (86400000000000 : Int64)) hx hb hown (hw _ bw190) dX0_gapInUnits_110 ?_
        refine lv_lload hx hb dX0_gapInUnits_113 (lv_at hl 0 rfl) ?_
        refine rcSl (as := [.long (86400000000000 : Int64), .long (fX0_nanosOfUnit p2)]) (rest := [.long ((xD S p1.toNatClampNeg) - (xD S p0.toNatClampNeg))]) C (c_X0_quotient l G (86400000000000 : Int64) (fX0_nanosOfUnit p2)) F_X0_quotient rfl bw229 bw230 hE vpn hl.1 dX0_gapInUnits_115 ⟨Nat.le_of_ble_eq_true rfl, Nat.le_of_ble_eq_true rfl⟩ rfl (Nat.le_of_ble_eq_true rfl) ⟨Nat.zero_le _, Nat.zero_le _⟩ ?_
        refine lv_lmul hx hb dX0_gapInUnits_118 ?_
        refine lv_lload hx hb dX0_gapInUnits_119 (lv_at hl 1 rfl) ?_
        refine lv_lload hx hb dX0_gapInUnits_121 (lv_at hl 0 rfl) ?_
        refine rcSl (as := [.long ((xN S p1.toNatClampNeg) - (xN S p0.toNatClampNeg)), .long (fX0_nanosOfUnit p2)]) (rest := [.long (((xD S p1.toNatClampNeg) - (xD S p0.toNatClampNeg)) * (fX0_quotient (86400000000000 : Int64) (fX0_nanosOfUnit p2)))]) C (c_X0_quotient l G ((xN S p1.toNatClampNeg) - (xN S p0.toNatClampNeg)) (fX0_nanosOfUnit p2)) F_X0_quotient rfl bw229 bw230 hE vpn hl.1 dX0_gapInUnits_123 ⟨Nat.le_of_ble_eq_true rfl, Nat.le_of_ble_eq_true rfl⟩ rfl (Nat.le_of_ble_eq_true rfl) ⟨Nat.zero_le _, Nat.zero_le _⟩ ?_
        refine lv_ladd hx hb dX0_gapInUnits_126 ?_
        exact re_l hx hb hr hk dX0_gapInUnits_127 (el (Eq.trans (if_pos c_1) (Eq.trans (if_pos c_2) (if_neg c_3))))
      · refine lv_lload hx hb dX0_gapInUnits_95 (lv_at hl 1 rfl) ?_
        refine lv_ldc2 (v := (7 : Int64)) hx hb hown (hw _ bw248) dX0_gapInUnits_97 ?_
        refine lv_ldiv hx hb dX0_gapInUnits_100 (by decide) ?_
        exact re_l hx hb hr hk dX0_gapInUnits_101 (el (Eq.trans (if_pos c_1) (Eq.trans (if_pos c_2) (if_pos c_3))))
    · refine lv_lload hx hb dX0_gapInUnits_68 (lv_at hl 0 rfl) ?_
      refine lv_lconst (v := (0 : Int64)) hx hb dX0_gapInUnits_70 (by decide) ?_
      refine W.lcmp hx hb dX0_gapInUnits_71 ?_
      refine lv_if_le (tgt := 89) hx hb dX0_gapInUnits_72 (by decide) (fun c_4 => ?_) (fun c_4 => ?_)
      · refine lv_iload_n hx hb dX0_gapInUnits_89 rfl (lv_at hl 5 rfl) ?_
        refine lv_bipush (v := (8 : Int32)) hx hb dX0_gapInUnits_90 (by decide) ?_
        refine lv_icmp_ne (tgt := 102) hx hb dX0_gapInUnits_92 (by decide) (fun c_5 => ?_) (fun c_5 => ?_)
        · refine lv_iload_n hx hb dX0_gapInUnits_102 rfl (lv_at hl 5 rfl) ?_
          refine rcSl (as := [.int p2]) (rest := []) C (c_X0_nanosOfUnit l G p2) F_X0_nanosOfUnit rfl bw223 bw224 hE vpn hl.1 dX0_gapInUnits_103 ⟨Nat.le_of_ble_eq_true rfl, Nat.le_of_ble_eq_true rfl⟩ rfl (Nat.le_of_ble_eq_true rfl) ⟨Nat.zero_le _, Nat.zero_le _⟩ ?_
          refine lv_lstore (lv' := [(8, .long (fX0_nanosOfUnit p2)), (6, .long ((xN S p1.toNatClampNeg) - (xN S p0.toNatClampNeg))), (4, .long ((xD S p1.toNatClampNeg) - (xD S p0.toNatClampNeg))), (0, .ref (a 0)), (1, .int p0), (2, .int p1), (3, .int p2)]) hx hb dX0_gapInUnits_106 hl (Nat.le_of_ble_eq_true rfl) rfl (fun ls hl => ?_)
          refine lv_lload hx hb dX0_gapInUnits_108 (lv_at hl 2 rfl) ?_
          refine lv_ldc2 (v := (86400000000000 : Int64)) hx hb hown (hw _ bw190) dX0_gapInUnits_110 ?_
          refine lv_lload hx hb dX0_gapInUnits_113 (lv_at hl 0 rfl) ?_
          refine rcSl (as := [.long (86400000000000 : Int64), .long (fX0_nanosOfUnit p2)]) (rest := [.long ((xD S p1.toNatClampNeg) - (xD S p0.toNatClampNeg))]) C (c_X0_quotient l G (86400000000000 : Int64) (fX0_nanosOfUnit p2)) F_X0_quotient rfl bw229 bw230 hE vpn hl.1 dX0_gapInUnits_115 ⟨Nat.le_of_ble_eq_true rfl, Nat.le_of_ble_eq_true rfl⟩ rfl (Nat.le_of_ble_eq_true rfl) ⟨Nat.zero_le _, Nat.zero_le _⟩ ?_
          refine lv_lmul hx hb dX0_gapInUnits_118 ?_
          refine lv_lload hx hb dX0_gapInUnits_119 (lv_at hl 1 rfl) ?_
          refine lv_lload hx hb dX0_gapInUnits_121 (lv_at hl 0 rfl) ?_
          refine rcSl (as := [.long ((xN S p1.toNatClampNeg) - (xN S p0.toNatClampNeg)), .long (fX0_nanosOfUnit p2)]) (rest := [.long (((xD S p1.toNatClampNeg) - (xD S p0.toNatClampNeg)) * (fX0_quotient (86400000000000 : Int64) (fX0_nanosOfUnit p2)))]) C (c_X0_quotient l G ((xN S p1.toNatClampNeg) - (xN S p0.toNatClampNeg)) (fX0_nanosOfUnit p2)) F_X0_quotient rfl bw229 bw230 hE vpn hl.1 dX0_gapInUnits_123 ⟨Nat.le_of_ble_eq_true rfl, Nat.le_of_ble_eq_true rfl⟩ rfl (Nat.le_of_ble_eq_true rfl) ⟨Nat.zero_le _, Nat.zero_le _⟩ ?_
          refine lv_ladd hx hb dX0_gapInUnits_126 ?_
          exact re_l hx hb hr hk dX0_gapInUnits_127 (el (Eq.trans (if_pos c_1) (Eq.trans (if_neg c_2) (Eq.trans (if_pos c_4) (if_neg c_5)))))
        · refine lv_lload hx hb dX0_gapInUnits_95 (lv_at hl 1 rfl) ?_
          refine lv_ldc2 (v := (7 : Int64)) hx hb hown (hw _ bw248) dX0_gapInUnits_97 ?_
          refine lv_ldiv hx hb dX0_gapInUnits_100 (by decide) ?_
          exact re_l hx hb hr hk dX0_gapInUnits_101 (el (Eq.trans (if_pos c_1) (Eq.trans (if_neg c_2) (Eq.trans (if_pos c_4) (if_pos c_5)))))
      · refine lv_lload hx hb dX0_gapInUnits_75 (lv_at hl 1 rfl) ?_
        refine lv_lconst (v := (1 : Int64)) hx hb dX0_gapInUnits_77 (by decide) ?_
        refine lv_ladd hx hb dX0_gapInUnits_78 ?_
        refine lv_lstore (lv' := [(4, .long (((xD S p1.toNatClampNeg) - (xD S p0.toNatClampNeg)) + (1 : Int64))), (6, .long ((xN S p1.toNatClampNeg) - (xN S p0.toNatClampNeg))), (0, .ref (a 0)), (1, .int p0), (2, .int p1), (3, .int p2)]) hx hb dX0_gapInUnits_79 hl (Nat.le_of_ble_eq_true rfl) rfl (fun ls hl => ?_)
        refine lv_lload hx hb dX0_gapInUnits_81 (lv_at hl 1 rfl) ?_
        refine lv_ldc2 (v := (86400000000000 : Int64)) hx hb hown (hw _ bw190) dX0_gapInUnits_83 ?_
        refine lv_lsub hx hb dX0_gapInUnits_86 ?_
        refine lv_lstore (lv' := [(6, .long (((xN S p1.toNatClampNeg) - (xN S p0.toNatClampNeg)) - (86400000000000 : Int64))), (4, .long (((xD S p1.toNatClampNeg) - (xD S p0.toNatClampNeg)) + (1 : Int64))), (0, .ref (a 0)), (1, .int p0), (2, .int p1), (3, .int p2)]) hx hb dX0_gapInUnits_87 hl (Nat.le_of_ble_eq_true rfl) rfl (fun ls hl => ?_)
        refine lv_iload_n hx hb dX0_gapInUnits_89 rfl (lv_at hl 5 rfl) ?_
        refine lv_bipush (v := (8 : Int32)) hx hb dX0_gapInUnits_90 (by decide) ?_
        refine lv_icmp_ne (tgt := 102) hx hb dX0_gapInUnits_92 (by decide) (fun c_6 => ?_) (fun c_6 => ?_)
        · refine lv_iload_n hx hb dX0_gapInUnits_102 rfl (lv_at hl 5 rfl) ?_
          refine rcSl (as := [.int p2]) (rest := []) C (c_X0_nanosOfUnit l G p2) F_X0_nanosOfUnit rfl bw223 bw224 hE vpn hl.1 dX0_gapInUnits_103 ⟨Nat.le_of_ble_eq_true rfl, Nat.le_of_ble_eq_true rfl⟩ rfl (Nat.le_of_ble_eq_true rfl) ⟨Nat.zero_le _, Nat.zero_le _⟩ ?_
          refine lv_lstore (lv' := [(8, .long (fX0_nanosOfUnit p2)), (6, .long (((xN S p1.toNatClampNeg) - (xN S p0.toNatClampNeg)) - (86400000000000 : Int64))), (4, .long (((xD S p1.toNatClampNeg) - (xD S p0.toNatClampNeg)) + (1 : Int64))), (0, .ref (a 0)), (1, .int p0), (2, .int p1), (3, .int p2)]) hx hb dX0_gapInUnits_106 hl (Nat.le_of_ble_eq_true rfl) rfl (fun ls hl => ?_)
          refine lv_lload hx hb dX0_gapInUnits_108 (lv_at hl 2 rfl) ?_
          refine lv_ldc2 (v := (86400000000000 : Int64)) hx hb hown (hw _ bw190) dX0_gapInUnits_110 ?_
          refine lv_lload hx hb dX0_gapInUnits_113 (lv_at hl 0 rfl) ?_
          refine rcSl (as := [.long (86400000000000 : Int64), .long (fX0_nanosOfUnit p2)]) (rest := [.long (((xD S p1.toNatClampNeg) - (xD S p0.toNatClampNeg)) + (1 : Int64))]) C (c_X0_quotient l G (86400000000000 : Int64) (fX0_nanosOfUnit p2)) F_X0_quotient rfl bw229 bw230 hE vpn hl.1 dX0_gapInUnits_115 ⟨Nat.le_of_ble_eq_true rfl, Nat.le_of_ble_eq_true rfl⟩ rfl (Nat.le_of_ble_eq_true rfl) ⟨Nat.zero_le _, Nat.zero_le _⟩ ?_
          refine lv_lmul hx hb dX0_gapInUnits_118 ?_
          refine lv_lload hx hb dX0_gapInUnits_119 (lv_at hl 1 rfl) ?_
          refine lv_lload hx hb dX0_gapInUnits_121 (lv_at hl 0 rfl) ?_
          refine rcSl (as := [.long (((xN S p1.toNatClampNeg) - (xN S p0.toNatClampNeg)) - (86400000000000 : Int64)), .long (fX0_nanosOfUnit p2)]) (rest := [.long ((((xD S p1.toNatClampNeg) - (xD S p0.toNatClampNeg)) + (1 : Int64)) * (fX0_quotient (86400000000000 : Int64) (fX0_nanosOfUnit p2)))]) C (c_X0_quotient l G (((xN S p1.toNatClampNeg) - (xN S p0.toNatClampNeg)) - (86400000000000 : Int64)) (fX0_nanosOfUnit p2)) F_X0_quotient rfl bw229 bw230 hE vpn hl.1 dX0_gapInUnits_123 ⟨Nat.le_of_ble_eq_true rfl, Nat.le_of_ble_eq_true rfl⟩ rfl (Nat.le_of_ble_eq_true rfl) ⟨Nat.zero_le _, Nat.zero_le _⟩ ?_
          refine lv_ladd hx hb dX0_gapInUnits_126 ?_
          exact re_l hx hb hr hk dX0_gapInUnits_127 (el (Eq.trans (if_pos c_1) (Eq.trans (if_neg c_2) (Eq.trans (if_neg c_4) (if_neg c_6)))))
        · refine lv_lload hx hb dX0_gapInUnits_95 (lv_at hl 1 rfl) ?_
          refine lv_ldc2 (v := (7 : Int64)) hx hb hown (hw _ bw248) dX0_gapInUnits_97 ?_
          refine lv_ldiv hx hb dX0_gapInUnits_100 (by decide) ?_
          exact re_l hx hb hr hk dX0_gapInUnits_101 (el (Eq.trans (if_pos c_1) (Eq.trans (if_neg c_2) (Eq.trans (if_neg c_4) (if_pos c_6)))))
  · refine lv_lload hx hb dX0_gapInUnits_37 (lv_at hl 0 rfl) ?_
    refine lv_lconst (v := (0 : Int64)) hx hb dX0_gapInUnits_39 (by decide) ?_
    refine W.lcmp hx hb dX0_gapInUnits_40 ?_
    refine lv_if_ge (tgt := 61) hx hb dX0_gapInUnits_41 (by decide) (fun c_7 => ?_) (fun c_7 => ?_)
    · refine lv_lload hx hb dX0_gapInUnits_61 (lv_at hl 1 rfl) ?_
      refine lv_lconst (v := (0 : Int64)) hx hb dX0_gapInUnits_63 (by decide) ?_
      refine W.lcmp hx hb dX0_gapInUnits_64 ?_
      refine lv_if_ge (tgt := 89) hx hb dX0_gapInUnits_65 (by decide) (fun c_8 => ?_) (fun c_8 => ?_)
      · refine lv_iload_n hx hb dX0_gapInUnits_89 rfl (lv_at hl 5 rfl) ?_
        refine lv_bipush (v := (8 : Int32)) hx hb dX0_gapInUnits_90 (by decide) ?_
        refine lv_icmp_ne (tgt := 102) hx hb dX0_gapInUnits_92 (by decide) (fun c_9 => ?_) (fun c_9 => ?_)
        · refine lv_iload_n hx hb dX0_gapInUnits_102 rfl (lv_at hl 5 rfl) ?_
          refine rcSl (as := [.int p2]) (rest := []) C (c_X0_nanosOfUnit l G p2) F_X0_nanosOfUnit rfl bw223 bw224 hE vpn hl.1 dX0_gapInUnits_103 ⟨Nat.le_of_ble_eq_true rfl, Nat.le_of_ble_eq_true rfl⟩ rfl (Nat.le_of_ble_eq_true rfl) ⟨Nat.zero_le _, Nat.zero_le _⟩ ?_
          refine lv_lstore (lv' := [(8, .long (fX0_nanosOfUnit p2)), (6, .long ((xN S p1.toNatClampNeg) - (xN S p0.toNatClampNeg))), (4, .long ((xD S p1.toNatClampNeg) - (xD S p0.toNatClampNeg))), (0, .ref (a 0)), (1, .int p0), (2, .int p1), (3, .int p2)]) hx hb dX0_gapInUnits_106 hl (Nat.le_of_ble_eq_true rfl) rfl (fun ls hl => ?_)
          refine lv_lload hx hb dX0_gapInUnits_108 (lv_at hl 2 rfl) ?_
          refine lv_ldc2 (v := (86400000000000 : Int64)) hx hb hown (hw _ bw190) dX0_gapInUnits_110 ?_
          refine lv_lload hx hb dX0_gapInUnits_113 (lv_at hl 0 rfl) ?_
          refine rcSl (as := [.long (86400000000000 : Int64), .long (fX0_nanosOfUnit p2)]) (rest := [.long ((xD S p1.toNatClampNeg) - (xD S p0.toNatClampNeg))]) C (c_X0_quotient l G (86400000000000 : Int64) (fX0_nanosOfUnit p2)) F_X0_quotient rfl bw229 bw230 hE vpn hl.1 dX0_gapInUnits_115 ⟨Nat.le_of_ble_eq_true rfl, Nat.le_of_ble_eq_true rfl⟩ rfl (Nat.le_of_ble_eq_true rfl) ⟨Nat.zero_le _, Nat.zero_le _⟩ ?_
          refine lv_lmul hx hb dX0_gapInUnits_118 ?_
          refine lv_lload hx hb dX0_gapInUnits_119 (lv_at hl 1 rfl) ?_
          refine lv_lload hx hb dX0_gapInUnits_121 (lv_at hl 0 rfl) ?_
          refine rcSl (as := [.long ((xN S p1.toNatClampNeg) - (xN S p0.toNatClampNeg)), .long (fX0_nanosOfUnit p2)]) (rest := [.long (((xD S p1.toNatClampNeg) - (xD S p0.toNatClampNeg)) * (fX0_quotient (86400000000000 : Int64) (fX0_nanosOfUnit p2)))]) C (c_X0_quotient l G ((xN S p1.toNatClampNeg) - (xN S p0.toNatClampNeg)) (fX0_nanosOfUnit p2)) F_X0_quotient rfl bw229 bw230 hE vpn hl.1 dX0_gapInUnits_123 ⟨Nat.le_of_ble_eq_true rfl, Nat.le_of_ble_eq_true rfl⟩ rfl (Nat.le_of_ble_eq_true rfl) ⟨Nat.zero_le _, Nat.zero_le _⟩ ?_
          refine lv_ladd hx hb dX0_gapInUnits_126 ?_
          exact re_l hx hb hr hk dX0_gapInUnits_127 (el (Eq.trans (if_neg c_1) (Eq.trans (if_pos c_7) (Eq.trans (if_pos c_8) (if_neg c_9)))))
        · refine lv_lload hx hb dX0_gapInUnits_95 (lv_at hl 1 rfl) ?_
          refine lv_ldc2 (v := (7 : Int64)) hx hb hown (hw _ bw248) dX0_gapInUnits_97 ?_
          refine lv_ldiv hx hb dX0_gapInUnits_100 (by decide) ?_
          exact re_l hx hb hr hk dX0_gapInUnits_101 (el (Eq.trans (if_neg c_1) (Eq.trans (if_pos c_7) (Eq.trans (if_pos c_8) (if_pos c_9)))))
      · refine lv_lload hx hb dX0_gapInUnits_68 (lv_at hl 0 rfl) ?_
        refine lv_lconst (v := (0 : Int64)) hx hb dX0_gapInUnits_70 (by decide) ?_
        refine W.lcmp hx hb dX0_gapInUnits_71 ?_
        refine lv_if_le (tgt := 89) hx hb dX0_gapInUnits_72 (by decide) (fun c_10 => ?_) (fun c_10 => ?_)
        · refine lv_iload_n hx hb dX0_gapInUnits_89 rfl (lv_at hl 5 rfl) ?_
          refine lv_bipush (v := (8 : Int32)) hx hb dX0_gapInUnits_90 (by decide) ?_
          refine lv_icmp_ne (tgt := 102) hx hb dX0_gapInUnits_92 (by decide) (fun c_11 => ?_) (fun c_11 => ?_)
          · refine lv_iload_n hx hb dX0_gapInUnits_102 rfl (lv_at hl 5 rfl) ?_
            refine rcSl (as := [.int p2]) (rest := []) C (c_X0_nanosOfUnit l G p2) F_X0_nanosOfUnit rfl bw223 bw224 hE vpn hl.1 dX0_gapInUnits_103 ⟨Nat.le_of_ble_eq_true rfl, Nat.le_of_ble_eq_true rfl⟩ rfl (Nat.le_of_ble_eq_true rfl) ⟨Nat.zero_le _, Nat.zero_le _⟩ ?_
            refine lv_lstore (lv' := [(8, .long (fX0_nanosOfUnit p2)), (6, .long ((xN S p1.toNatClampNeg) - (xN S p0.toNatClampNeg))), (4, .long ((xD S p1.toNatClampNeg) - (xD S p0.toNatClampNeg))), (0, .ref (a 0)), (1, .int p0), (2, .int p1), (3, .int p2)]) hx hb dX0_gapInUnits_106 hl (Nat.le_of_ble_eq_true rfl) rfl (fun ls hl => ?_)
            refine lv_lload hx hb dX0_gapInUnits_108 (lv_at hl 2 rfl) ?_
            refine lv_ldc2 (v := (86400000000000 : Int64)) hx hb hown (hw _ bw190) dX0_gapInUnits_110 ?_
            refine lv_lload hx hb dX0_gapInUnits_113 (lv_at hl 0 rfl) ?_
            refine rcSl (as := [.long (86400000000000 : Int64), .long (fX0_nanosOfUnit p2)]) (rest := [.long ((xD S p1.toNatClampNeg) - (xD S p0.toNatClampNeg))]) C (c_X0_quotient l G (86400000000000 : Int64) (fX0_nanosOfUnit p2)) F_X0_quotient rfl bw229 bw230 hE vpn hl.1 dX0_gapInUnits_115 ⟨Nat.le_of_ble_eq_true rfl, Nat.le_of_ble_eq_true rfl⟩ rfl (Nat.le_of_ble_eq_true rfl) ⟨Nat.zero_le _, Nat.zero_le _⟩ ?_
            refine lv_lmul hx hb dX0_gapInUnits_118 ?_
            refine lv_lload hx hb dX0_gapInUnits_119 (lv_at hl 1 rfl) ?_
            refine lv_lload hx hb dX0_gapInUnits_121 (lv_at hl 0 rfl) ?_
            refine rcSl (as := [.long ((xN S p1.toNatClampNeg) - (xN S p0.toNatClampNeg)), .long (fX0_nanosOfUnit p2)]) (rest := [.long (((xD S p1.toNatClampNeg) - (xD S p0.toNatClampNeg)) * (fX0_quotient (86400000000000 : Int64) (fX0_nanosOfUnit p2)))]) C (c_X0_quotient l G ((xN S p1.toNatClampNeg) - (xN S p0.toNatClampNeg)) (fX0_nanosOfUnit p2)) F_X0_quotient rfl bw229 bw230 hE vpn hl.1 dX0_gapInUnits_123 ⟨Nat.le_of_ble_eq_true rfl, Nat.le_of_ble_eq_true rfl⟩ rfl (Nat.le_of_ble_eq_true rfl) ⟨Nat.zero_le _, Nat.zero_le _⟩ ?_
            refine lv_ladd hx hb dX0_gapInUnits_126 ?_
            exact re_l hx hb hr hk dX0_gapInUnits_127 (el (Eq.trans (if_neg c_1) (Eq.trans (if_pos c_7) (Eq.trans (if_neg c_8) (Eq.trans (if_pos c_10) (if_neg c_11))))))
          · refine lv_lload hx hb dX0_gapInUnits_95 (lv_at hl 1 rfl) ?_
            refine lv_ldc2 (v := (7 : Int64)) hx hb hown (hw _ bw248) dX0_gapInUnits_97 ?_
            refine lv_ldiv hx hb dX0_gapInUnits_100 (by decide) ?_
            exact re_l hx hb hr hk dX0_gapInUnits_101 (el (Eq.trans (if_neg c_1) (Eq.trans (if_pos c_7) (Eq.trans (if_neg c_8) (Eq.trans (if_pos c_10) (if_pos c_11))))))
        · refine lv_lload hx hb dX0_gapInUnits_75 (lv_at hl 1 rfl) ?_
          refine lv_lconst (v := (1 : Int64)) hx hb dX0_gapInUnits_77 (by decide) ?_
          refine lv_ladd hx hb dX0_gapInUnits_78 ?_
          refine lv_lstore (lv' := [(4, .long (((xD S p1.toNatClampNeg) - (xD S p0.toNatClampNeg)) + (1 : Int64))), (6, .long ((xN S p1.toNatClampNeg) - (xN S p0.toNatClampNeg))), (0, .ref (a 0)), (1, .int p0), (2, .int p1), (3, .int p2)]) hx hb dX0_gapInUnits_79 hl (Nat.le_of_ble_eq_true rfl) rfl (fun ls hl => ?_)
          refine lv_lload hx hb dX0_gapInUnits_81 (lv_at hl 1 rfl) ?_
          refine lv_ldc2 (v := (86400000000000 : Int64)) hx hb hown (hw _ bw190) dX0_gapInUnits_83 ?_
          refine lv_lsub hx hb dX0_gapInUnits_86 ?_
          refine lv_lstore (lv' := [(6, .long (((xN S p1.toNatClampNeg) - (xN S p0.toNatClampNeg)) - (86400000000000 : Int64))), (4, .long (((xD S p1.toNatClampNeg) - (xD S p0.toNatClampNeg)) + (1 : Int64))), (0, .ref (a 0)), (1, .int p0), (2, .int p1), (3, .int p2)]) hx hb dX0_gapInUnits_87 hl (Nat.le_of_ble_eq_true rfl) rfl (fun ls hl => ?_)
          refine lv_iload_n hx hb dX0_gapInUnits_89 rfl (lv_at hl 5 rfl) ?_
          refine lv_bipush (v := (8 : Int32)) hx hb dX0_gapInUnits_90 (by decide) ?_
          refine lv_icmp_ne (tgt := 102) hx hb dX0_gapInUnits_92 (by decide) (fun c_12 => ?_) (fun c_12 => ?_)
          · refine lv_iload_n hx hb dX0_gapInUnits_102 rfl (lv_at hl 5 rfl) ?_
            refine rcSl (as := [.int p2]) (rest := []) C (c_X0_nanosOfUnit l G p2) F_X0_nanosOfUnit rfl bw223 bw224 hE vpn hl.1 dX0_gapInUnits_103 ⟨Nat.le_of_ble_eq_true rfl, Nat.le_of_ble_eq_true rfl⟩ rfl (Nat.le_of_ble_eq_true rfl) ⟨Nat.zero_le _, Nat.zero_le _⟩ ?_
            refine lv_lstore (lv' := [(8, .long (fX0_nanosOfUnit p2)), (6, .long (((xN S p1.toNatClampNeg) - (xN S p0.toNatClampNeg)) - (86400000000000 : Int64))), (4, .long (((xD S p1.toNatClampNeg) - (xD S p0.toNatClampNeg)) + (1 : Int64))), (0, .ref (a 0)), (1, .int p0), (2, .int p1), (3, .int p2)]) hx hb dX0_gapInUnits_106 hl (Nat.le_of_ble_eq_true rfl) rfl (fun ls hl => ?_)
            refine lv_lload hx hb dX0_gapInUnits_108 (lv_at hl 2 rfl) ?_
            refine lv_ldc2 (v := (86400000000000 : Int64)) hx hb hown (hw _ bw190) dX0_gapInUnits_110 ?_
            refine lv_lload hx hb dX0_gapInUnits_113 (lv_at hl 0 rfl) ?_
            refine rcSl (as := [.long (86400000000000 : Int64), .long (fX0_nanosOfUnit p2)]) (rest := [.long (((xD S p1.toNatClampNeg) - (xD S p0.toNatClampNeg)) + (1 : Int64))]) C (c_X0_quotient l G (86400000000000 : Int64) (fX0_nanosOfUnit p2)) F_X0_quotient rfl bw229 bw230 hE vpn hl.1 dX0_gapInUnits_115 ⟨Nat.le_of_ble_eq_true rfl, Nat.le_of_ble_eq_true rfl⟩ rfl (Nat.le_of_ble_eq_true rfl) ⟨Nat.zero_le _, Nat.zero_le _⟩ ?_
            refine lv_lmul hx hb dX0_gapInUnits_118 ?_
            refine lv_lload hx hb dX0_gapInUnits_119 (lv_at hl 1 rfl) ?_
            refine lv_lload hx hb dX0_gapInUnits_121 (lv_at hl 0 rfl) ?_
            refine rcSl (as := [.long (((xN S p1.toNatClampNeg) - (xN S p0.toNatClampNeg)) - (86400000000000 : Int64)), .long (fX0_nanosOfUnit p2)]) (rest := [.long ((((xD S p1.toNatClampNeg) - (xD S p0.toNatClampNeg)) + (1 : Int64)) * (fX0_quotient (86400000000000 : Int64) (fX0_nanosOfUnit p2)))]) C (c_X0_quotient l G (((xN S p1.toNatClampNeg) - (xN S p0.toNatClampNeg)) - (86400000000000 : Int64)) (fX0_nanosOfUnit p2)) F_X0_quotient rfl bw229 bw230 hE vpn hl.1 dX0_gapInUnits_123 ⟨Nat.le_of_ble_eq_true rfl, Nat.le_of_ble_eq_true rfl⟩ rfl (Nat.le_of_ble_eq_true rfl) ⟨Nat.zero_le _, Nat.zero_le _⟩ ?_
            refine lv_ladd hx hb dX0_gapInUnits_126 ?_
            exact re_l hx hb hr hk dX0_gapInUnits_127 (el (Eq.trans (if_neg c_1) (Eq.trans (if_pos c_7) (Eq.trans (if_neg c_8) (Eq.trans (if_neg c_10) (if_neg c_12))))))
          · refine lv_lload hx hb dX0_gapInUnits_95 (lv_at hl 1 rfl) ?_
            refine lv_ldc2 (v := (7 : Int64)) hx hb hown (hw _ bw248) dX0_gapInUnits_97 ?_
            refine lv_ldiv hx hb dX0_gapInUnits_100 (by decide) ?_
            exact re_l hx hb hr hk dX0_gapInUnits_101 (el (Eq.trans (if_neg c_1) (Eq.trans (if_pos c_7) (Eq.trans (if_neg c_8) (Eq.trans (if_neg c_10) (if_pos c_12))))))
    · refine lv_lload hx hb dX0_gapInUnits_44 (lv_at hl 1 rfl) ?_
      refine lv_lconst (v := (1 : Int64)) hx hb dX0_gapInUnits_46 (by decide) ?_
      refine lv_lsub hx hb dX0_gapInUnits_47 ?_
      refine lv_lstore (lv' := [(4, .long (((xD S p1.toNatClampNeg) - (xD S p0.toNatClampNeg)) - (1 : Int64))), (6, .long ((xN S p1.toNatClampNeg) - (xN S p0.toNatClampNeg))), (0, .ref (a 0)), (1, .int p0), (2, .int p1), (3, .int p2)]) hx hb dX0_gapInUnits_48 hl (Nat.le_of_ble_eq_true rfl) rfl (fun ls hl => ?_)
      refine lv_lload hx hb dX0_gapInUnits_50 (lv_at hl 1 rfl) ?_
      refine lv_ldc2 (v := (86400000000000 : Int64)) hx hb hown (hw _ bw190) dX0_gapInUnits_52 ?_
      refine lv_ladd hx hb dX0_gapInUnits_55 ?_
      refine lv_lstore (lv' := [(6, .long (((xN S p1.toNatClampNeg) - (xN S p0.toNatClampNeg)) + (86400000000000 : Int64))), (4, .long (((xD S p1.toNatClampNeg) - (xD S p0.toNatClampNeg)) - (1 : Int64))), (0, .ref (a 0)), (1, .int p0), (2, .int p1), (3, .int p2)]) hx hb dX0_gapInUnits_56 hl (Nat.le_of_ble_eq_true rfl) rfl (fun ls hl => ?_)
      refine lv_goto (tgt := 89) hx hb dX0_gapInUnits_58 (by decide) ?_
      refine lv_iload_n hx hb dX0_gapInUnits_89 rfl (lv_at hl 5 rfl) ?_
      refine lv_bipush (v := (8 : Int32)) hx hb dX0_gapInUnits_90 (by decide) ?_
      refine lv_icmp_ne (tgt := 102) hx hb dX0_gapInUnits_92 (by decide) (fun c_13 => ?_) (fun c_13 => ?_)
      · refine lv_iload_n hx hb dX0_gapInUnits_102 rfl (lv_at hl 5 rfl) ?_
        refine rcSl (as := [.int p2]) (rest := []) C (c_X0_nanosOfUnit l G p2) F_X0_nanosOfUnit rfl bw223 bw224 hE vpn hl.1 dX0_gapInUnits_103 ⟨Nat.le_of_ble_eq_true rfl, Nat.le_of_ble_eq_true rfl⟩ rfl (Nat.le_of_ble_eq_true rfl) ⟨Nat.zero_le _, Nat.zero_le _⟩ ?_
        refine lv_lstore (lv' := [(8, .long (fX0_nanosOfUnit p2)), (6, .long (((xN S p1.toNatClampNeg) - (xN S p0.toNatClampNeg)) + (86400000000000 : Int64))), (4, .long (((xD S p1.toNatClampNeg) - (xD S p0.toNatClampNeg)) - (1 : Int64))), (0, .ref (a 0)), (1, .int p0), (2, .int p1), (3, .int p2)]) hx hb dX0_gapInUnits_106 hl (Nat.le_of_ble_eq_true rfl) rfl (fun ls hl => ?_)
        refine lv_lload hx hb dX0_gapInUnits_108 (lv_at hl 2 rfl) ?_
        refine lv_ldc2 (v := (86400000000000 : Int64)) hx hb hown (hw _ bw190) dX0_gapInUnits_110 ?_
        refine lv_lload hx hb dX0_gapInUnits_113 (lv_at hl 0 rfl) ?_
        refine rcSl (as := [.long (86400000000000 : Int64), .long (fX0_nanosOfUnit p2)]) (rest := [.long (((xD S p1.toNatClampNeg) - (xD S p0.toNatClampNeg)) - (1 : Int64))]) C (c_X0_quotient l G (86400000000000 : Int64) (fX0_nanosOfUnit p2)) F_X0_quotient rfl bw229 bw230 hE vpn hl.1 dX0_gapInUnits_115 ⟨Nat.le_of_ble_eq_true rfl, Nat.le_of_ble_eq_true rfl⟩ rfl (Nat.le_of_ble_eq_true rfl) ⟨Nat.zero_le _, Nat.zero_le _⟩ ?_
        refine lv_lmul hx hb dX0_gapInUnits_118 ?_
        refine lv_lload hx hb dX0_gapInUnits_119 (lv_at hl 1 rfl) ?_
        refine lv_lload hx hb dX0_gapInUnits_121 (lv_at hl 0 rfl) ?_
        refine rcSl (as := [.long (((xN S p1.toNatClampNeg) - (xN S p0.toNatClampNeg)) + (86400000000000 : Int64)), .long (fX0_nanosOfUnit p2)]) (rest := [.long ((((xD S p1.toNatClampNeg) - (xD S p0.toNatClampNeg)) - (1 : Int64)) * (fX0_quotient (86400000000000 : Int64) (fX0_nanosOfUnit p2)))]) C (c_X0_quotient l G (((xN S p1.toNatClampNeg) - (xN S p0.toNatClampNeg)) + (86400000000000 : Int64)) (fX0_nanosOfUnit p2)) F_X0_quotient rfl bw229 bw230 hE vpn hl.1 dX0_gapInUnits_123 ⟨Nat.le_of_ble_eq_true rfl, Nat.le_of_ble_eq_true rfl⟩ rfl (Nat.le_of_ble_eq_true rfl) ⟨Nat.zero_le _, Nat.zero_le _⟩ ?_
        refine lv_ladd hx hb dX0_gapInUnits_126 ?_
        exact re_l hx hb hr hk dX0_gapInUnits_127 (el (Eq.trans (if_neg c_1) (Eq.trans (if_neg c_7) (if_neg c_13))))
      · refine lv_lload hx hb dX0_gapInUnits_95 (lv_at hl 1 rfl) ?_
        refine lv_ldc2 (v := (7 : Int64)) hx hb hown (hw _ bw248) dX0_gapInUnits_97 ?_
        refine lv_ldiv hx hb dX0_gapInUnits_100 (by decide) ?_
        exact re_l hx hb hr hk dX0_gapInUnits_101 (el (Eq.trans (if_neg c_1) (Eq.trans (if_neg c_7) (if_pos c_13))))

