set_option maxRecDepth 100000 in
set_option maxHeartbeats 4000000 in
theorem c_X0_yearDay (l : Launch) (G : GT) (a : Nat → Nat) (S : SX) (p0 : Int32) (h0 : vp_in p0 6) : RO l G yX0_yearDay cX0_yearDay 2 (some .int) 3 [.ref (a 0), .int p0] (wX G a S) (some (.int (fX0_yearDay S p0))) := by
  refine RO.ofW (own := RX0) rfl (by decide +kernel) (Nat.le_of_ble_eq_true rfl) ?_
  intro p e s m below meth c C hr hk hE hP ls hl
  have hx := C.1
  have hb := C.2.1
  have hown := C.2.2.2.1
  have hw := C.2.2.2.2
  have hl : lv_has ls 2 [(0, .ref (a 0)), (1, .int p0)] := hl
  refine lv_aload_n hx hb dX0_yearDay_0 rfl (lv_at hl 0 rfl) ?_
  refine va_get (D := gD G) (cl := vwCl) (tys := gT G) (ci := 2) (v := .ref (a 1)) (C := RX0) (T := TX0) (N := 12) hx hb hw inB_X0 hown hE.K hP 0 rfl rfl 0 (by decide) (hw _ bw94) (fun _ h9 => h9) rfl dX0_yearDay_1 ?_
  refine lv_iload_n hx hb dX0_yearDay_4 rfl (lv_at hl 1 rfl) ?_
  refine va_iald (tys := gT G) hx hb hE.K hP 1 0 rfl rfl h0 dX0_yearDay_5 ?_
  refine lv_aload_n hx hb dX0_yearDay_6 rfl (lv_at hl 0 rfl) ?_
  refine va_get (D := gD G) (cl := vwCl) (tys := gT G) (ci := 2) (v := .ref (a 2)) (C := RX0) (T := TX0) (N := 12) hx hb hw inB_X0 hown hE.K hP 0 rfl rfl 1 (by decide) (hw _ bw95) (fun _ h9 => h9) rfl dX0_yearDay_7 ?_
  refine lv_iload_n hx hb dX0_yearDay_10 rfl (lv_at hl 1 rfl) ?_
  refine va_iald (tys := gT G) hx hb hE.K hP 2 0 rfl rfl h0 dX0_yearDay_11 ?_
  refine rcSi (as := [.int (xy S p0.toNatClampNeg), .int (xm S p0.toNatClampNeg)]) (rest := []) C (c_X0_daysAhead l G (xy S p0.toNatClampNeg) (xm S p0.toNatClampNeg)) F_X0_daysAhead rfl bw170 bw171 hE vpn hl.1 dX0_yearDay_12 ⟨Nat.le_of_ble_eq_true rfl, Nat.le_of_ble_eq_true rfl⟩ rfl (Nat.le_of_ble_eq_true rfl) ⟨Nat.zero_le _, Nat.zero_le _⟩ ?_
  refine lv_aload_n hx hb dX0_yearDay_15 rfl (lv_at hl 0 rfl) ?_
  refine va_get (D := gD G) (cl := vwCl) (tys := gT G) (ci := 2) (v := .ref (a 3)) (C := RX0) (T := TX0) (N := 12) hx hb hw inB_X0 hown hE.K hP 0 rfl rfl 2 (by decide) (hw _ bw96) (fun _ h9 => h9) rfl dX0_yearDay_16 ?_
  refine lv_iload_n hx hb dX0_yearDay_19 rfl (lv_at hl 1 rfl) ?_
  refine va_iald (tys := gT G) hx hb hE.K hP 3 0 rfl rfl h0 dX0_yearDay_20 ?_
  refine lv_iadd hx hb dX0_yearDay_21 ?_
  exact re_i hx hb hr hk dX0_yearDay_22 (ei rfl)

set_option maxRecDepth 100000 in
set_option maxHeartbeats 4000000 in
theorem c_X0_monthCount (l : Launch) (G : GT) (a : Nat → Nat) (S : SX) (p0 : Int32) (h0 : vp_in p0 6) : RO l G yX0_monthCount cX0_monthCount 2 (some .long) 1 [.ref (a 0), .int p0] (wX G a S) (some (.long (fX0_monthCount S p0))) := by
  refine RO.ofW (own := RX0) rfl (by decide +kernel) (Nat.le_of_ble_eq_true rfl) ?_
  intro p e s m below meth c C hr hk hE hP ls hl
  have hx := C.1
  have hb := C.2.1
  have hown := C.2.2.2.1
  have hw := C.2.2.2.2
  have hl : lv_has ls 2 [(0, .ref (a 0)), (1, .int p0)] := hl
  refine lv_ldc2 (v := (12 : Int64)) hx hb hown (hw _ bw543) dX0_monthCount_0 ?_
  refine lv_aload_n hx hb dX0_monthCount_3 rfl (lv_at hl 0 rfl) ?_
  refine va_get (D := gD G) (cl := vwCl) (tys := gT G) (ci := 2) (v := .ref (a 1)) (C := RX0) (T := TX0) (N := 12) hx hb hw inB_X0 hown hE.K hP 0 rfl rfl 0 (by decide) (hw _ bw94) (fun _ h9 => h9) rfl dX0_monthCount_4 ?_
  refine lv_iload_n hx hb dX0_monthCount_7 rfl (lv_at hl 1 rfl) ?_
  refine va_iald (tys := gT G) hx hb hE.K hP 1 0 rfl rfl h0 dX0_monthCount_8 ?_
  refine lv_i2l (v := ((xy S p0.toNatClampNeg).toInt64)) hx hb dX0_monthCount_9 (by first | rfl | decide) ?_
  refine lv_lmul hx hb dX0_monthCount_10 ?_
  refine lv_aload_n hx hb dX0_monthCount_11 rfl (lv_at hl 0 rfl) ?_
  refine va_get (D := gD G) (cl := vwCl) (tys := gT G) (ci := 2) (v := .ref (a 2)) (C := RX0) (T := TX0) (N := 12) hx hb hw inB_X0 hown hE.K hP 0 rfl rfl 1 (by decide) (hw _ bw95) (fun _ h9 => h9) rfl dX0_monthCount_12 ?_
  refine lv_iload_n hx hb dX0_monthCount_15 rfl (lv_at hl 1 rfl) ?_
  refine va_iald (tys := gT G) hx hb hE.K hP 2 0 rfl rfl h0 dX0_monthCount_16 ?_
  refine lv_i2l (v := ((xm S p0.toNatClampNeg).toInt64)) hx hb dX0_monthCount_17 (by first | rfl | decide) ?_
  refine lv_ladd hx hb dX0_monthCount_18 ?_
  refine lv_lconst (v := (1 : Int64)) hx hb dX0_monthCount_19 (by decide) ?_
  refine lv_lsub hx hb dX0_monthCount_20 ?_
  exact re_l hx hb hr hk dX0_monthCount_21 (el rfl)

set_option maxRecDepth 100000 in
set_option maxHeartbeats 4000000 in
theorem c_X0_handTime (l : Launch) (G : GT) (a : Nat → Nat) (S : SX) (p0 : Int32) : RO l G yX0_handTime cX0_handTime 5 (some .long) 2 [.ref (a 0), .int p0] (wX G a S) (some (.long (fX0_handTime S p0))) := by
  refine RO.ofW (own := RX0) rfl (by decide +kernel) (Nat.le_of_ble_eq_true rfl) ?_
  intro p e s m below meth c C hr hk hE hP ls hl
  have hx := C.1
  have hb := C.2.1
  have hown := C.2.2.2.1
  have hw := C.2.2.2.2
  have hl : lv_has ls 5 [(0, .ref (a 0)), (1, .int p0)] := hl
  refine lv_iload_n hx hb dX0_handTime_0 rfl (lv_at hl 1 rfl) ?_
  refine lv_bipush (v := (6 : Int32)) hx hb dX0_handTime_1 (by decide) ?_
  refine lv_icmp_ne (tgt := 10) hx hb dX0_handTime_3 (by decide) (fun c_1 => ?_) (fun c_1 => ?_)
  · refine lv_iload_n hx hb dX0_handTime_10 rfl (lv_at hl 1 rfl) ?_
    refine lv_iconst (v := (3 : Int32)) hx hb dX0_handTime_11 (by decide) ?_
    refine lv_irem hx hb dX0_handTime_12 (by decide) ?_
    refine lv_istore_n (lv' := [(2, .int (p0 - p0 / (3 : Int32) * (3 : Int32))), (0, .ref (a 0)), (1, .int p0)]) hx hb dX0_handTime_13 rfl hl (Nat.le_of_ble_eq_true rfl) rfl (fun ls hl => ?_)
    refine lv_iload_n hx hb dX0_handTime_14 rfl (lv_at hl 0 rfl) ?_
    refine lv_iconst (v := (1 : Int32)) hx hb dX0_handTime_15 (by decide) ?_
    refine lv_icmp_lt (tgt := 26) hx hb dX0_handTime_16 (by decide) (fun c_2 => ?_) (fun c_2 => ?_)
    · refine lv_iconst (v := (0 : Int32)) hx hb dX0_handTime_26 (by decide) ?_
      refine lv_istore_n (lv' := [(3, .int (0 : Int32)), (2, .int (p0 - p0 / (3 : Int32) * (3 : Int32))), (0, .ref (a 0)), (1, .int p0)]) hx hb dX0_handTime_27 rfl hl (Nat.le_of_ble_eq_true rfl) rfl (fun ls hl => ?_)
      refine lv_iload_n hx hb dX0_handTime_28 rfl (lv_at hl 1 rfl) ?_
      refine lv_iconst (v := (2 : Int32)) hx hb dX0_handTime_29 (by decide) ?_
      refine lv_icmp_lt (tgt := 40) hx hb dX0_handTime_30 (by decide) (fun c_3 => ?_) (fun c_3 => ?_)
      · refine lv_iconst (v := (0 : Int32)) hx hb dX0_handTime_40 (by decide) ?_
        refine lv_istore (lv' := [(4, .int (0 : Int32)), (3, .int (0 : Int32)), (2, .int (p0 - p0 / (3 : Int32) * (3 : Int32))), (0, .ref (a 0)), (1, .int p0)]) hx hb dX0_handTime_41 hl (Nat.le_of_ble_eq_true rfl) rfl (fun ls hl => ?_)
        refine lv_aload_n hx hb dX0_handTime_43 rfl (lv_at hl 3 rfl) ?_
        refine va_get (D := gD G) (cl := vwCl) (tys := gT G) (ci := 2) (v := .int (xi S 0)) (C := RX0) (T := TX0) (N := 12) hx hb hw inB_X0 hown hE.K hP 0 rfl rfl 5 (by decide) (hw _ bw99) (fun _ h9 => h9) rfl dX0_handTime_44 ?_
        refine lv_aload_n hx hb dX0_handTime_47 rfl (lv_at hl 3 rfl) ?_
        refine va_get (D := gD G) (cl := vwCl) (tys := gT G) (ci := 2) (v := .int (xi S 1)) (C := RX0) (T := TX0) (N := 12) hx hb hw inB_X0 hown hE.K hP 0 rfl rfl 6 (by decide) (hw _ bw100) (fun _ h9 => h9) rfl dX0_handTime_48 ?_
        refine lv_iload_n hx hb dX0_handTime_51 rfl (lv_at hl 1 rfl) ?_
        refine lv_iload hx hb dX0_handTime_52 (lv_at hl 0 rfl) ?_
        refine rcSl (as := [.int (xi S 0), .int (xi S 1), .int (0 : Int32), .int (0 : Int32)]) (rest := []) C (c_X0_timeOf l G (xi S 0) (xi S 1) (0 : Int32) (0 : Int32)) F_X0_timeOf rfl bw164 bw165 hE vpn hl.1 dX0_handTime_54 ⟨Nat.le_of_ble_eq_true rfl, Nat.le_of_ble_eq_true rfl⟩ rfl (Nat.le_of_ble_eq_true rfl) ⟨Nat.zero_le _, Nat.zero_le _⟩ ?_
        exact re_l hx hb hr hk dX0_handTime_57 (el (Eq.trans (if_neg c_1) (Eq.trans (if_pos c_2) (if_pos c_3))))
      · refine lv_aload_n hx hb dX0_handTime_33 rfl (lv_at hl 2 rfl) ?_
        refine va_get (D := gD G) (cl := vwCl) (tys := gT G) (ci := 2) (v := .int (xi S 3)) (C := RX0) (T := TX0) (N := 12) hx hb hw inB_X0 hown hE.K hP 0 rfl rfl 8 (by decide) (hw _ bw102) (fun _ h9 => h9) rfl dX0_handTime_34 ?_
        refine lv_goto (tgt := 41) hx hb dX0_handTime_37 (by decide) ?_
        refine lv_istore (lv' := [(4, .int (xi S 3)), (3, .int (0 : Int32)), (2, .int (p0 - p0 / (3 : Int32) * (3 : Int32))), (0, .ref (a 0)), (1, .int p0)]) hx hb dX0_handTime_41 hl (Nat.le_of_ble_eq_true rfl) rfl (fun ls hl => ?_)
        refine lv_aload_n hx hb dX0_handTime_43 rfl (lv_at hl 3 rfl) ?_
        refine va_get (D := gD G) (cl := vwCl) (tys := gT G) (ci := 2) (v := .int (xi S 0)) (C := RX0) (T := TX0) (N := 12) hx hb hw inB_X0 hown hE.K hP 0 rfl rfl 5 (by decide) (hw _ bw99) (fun _ h9 => h9) rfl dX0_handTime_44 ?_
        refine lv_aload_n hx hb dX0_handTime_47 rfl (lv_at hl 3 rfl) ?_
        refine va_get (D := gD G) (cl := vwCl) (tys := gT G) (ci := 2) (v := .int (xi S 1)) (C := RX0) (T := TX0) (N := 12) hx hb hw inB_X0 hown hE.K hP 0 rfl rfl 6 (by decide) (hw _ bw100) (fun _ h9 => h9) rfl dX0_handTime_48 ?_
        refine lv_iload_n hx hb dX0_handTime_51 rfl (lv_at hl 1 rfl) ?_
        refine lv_iload hx hb dX0_handTime_52 (lv_at hl 0 rfl) ?_
        refine rcSl (as := [.int (xi S 0), .int (xi S 1), .int (0 : Int32), .int (xi S 3)]) (rest := []) C (c_X0_timeOf l G (xi S 0) (xi S 1) (0 : Int32) (xi S 3)) F_X0_timeOf rfl bw164 bw165 hE vpn hl.1 dX0_handTime_54 ⟨Nat.le_of_ble_eq_true rfl, Nat.le_of_ble_eq_true rfl⟩ rfl (Nat.le_of_ble_eq_true rfl) ⟨Nat.zero_le _, Nat.zero_le _⟩ ?_
        exact re_l hx hb hr hk dX0_handTime_57 (el (Eq.trans (if_neg c_1) (Eq.trans (if_pos c_2) (if_neg c_3))))
    · refine lv_aload_n hx hb dX0_handTime_19 rfl (lv_at hl 1 rfl) ?_
      refine va_get (D := gD G) (cl := vwCl) (tys := gT G) (ci := 2) (v := .int (xi S 2)) (C := RX0) (T := TX0) (N := 12) hx hb hw inB_X0 hown hE.K hP 0 rfl rfl 7 (by decide) (hw _ bw101) (fun _ h9 => h9) rfl dX0_handTime_20 ?_
      refine lv_goto (tgt := 27) hx hb dX0_handTime_23 (by decide) ?_
      refine lv_istore_n (lv' := [(3, .int (xi S 2)), (2, .int (p0 - p0 / (3 : Int32) * (3 : Int32))), (0, .ref (a 0)), (1, .int p0)]) hx hb dX0_handTime_27 rfl hl (Nat.le_of_ble_eq_true rfl) rfl (fun ls hl => ?_)
      refine lv_iload_n hx hb dX0_handTime_28 rfl (lv_at hl 1 rfl) ?_
      refine lv_iconst (v := (2 : Int32)) hx hb dX0_handTime_29 (by decide) ?_
      refine lv_icmp_lt (tgt := 40) hx hb dX0_handTime_30 (by decide) (fun c_4 => ?_) (fun c_4 => ?_)
      · refine lv_iconst (v := (0 : Int32)) hx hb dX0_handTime_40 (by decide) ?_
        refine lv_istore (lv' := [(4, .int (0 : Int32)), (3, .int (xi S 2)), (2, .int (p0 - p0 / (3 : Int32) * (3 : Int32))), (0, .ref (a 0)), (1, .int p0)]) hx hb dX0_handTime_41 hl (Nat.le_of_ble_eq_true rfl) rfl (fun ls hl => ?_)
        refine lv_aload_n hx hb dX0_handTime_43 rfl (lv_at hl 3 rfl) ?_
        refine va_get (D := gD G) (cl := vwCl) (tys := gT G) (ci := 2) (v := .int (xi S 0)) (C := RX0) (T := TX0) (N := 12) hx hb hw inB_X0 hown hE.K hP 0 rfl rfl 5 (by decide) (hw _ bw99) (fun _ h9 => h9) rfl dX0_handTime_44 ?_
        refine lv_aload_n hx hb dX0_handTime_47 rfl (lv_at hl 3 rfl) ?_
        refine va_get (D := gD G) (cl := vwCl) (tys := gT G) (ci := 2) (v := .int (xi S 1)) (C := RX0) (T := TX0) (N := 12) hx hb hw inB_X0 hown hE.K hP 0 rfl rfl 6 (by decide) (hw _ bw100) (fun _ h9 => h9) rfl dX0_handTime_48 ?_
        refine lv_iload_n hx hb dX0_handTime_51 rfl (lv_at hl 1 rfl) ?_
        refine lv_iload hx hb dX0_handTime_52 (lv_at hl 0 rfl) ?_
        refine rcSl (as := [.int (xi S 0), .int (xi S 1), .int (xi S 2), .int (0 : Int32)]) (rest := []) C (c_X0_timeOf l G (xi S 0) (xi S 1) (xi S 2) (0 : Int32)) F_X0_timeOf rfl bw164 bw165 hE vpn hl.1 dX0_handTime_54 ⟨Nat.le_of_ble_eq_true rfl, Nat.le_of_ble_eq_true rfl⟩ rfl (Nat.le_of_ble_eq_true rfl) ⟨Nat.zero_le _, Nat.zero_le _⟩ ?_
        exact re_l hx hb hr hk dX0_handTime_57 (el (Eq.trans (if_neg c_1) (Eq.trans (if_neg c_2) (if_pos c_4))))
      · refine lv_aload_n hx hb dX0_handTime_33 rfl (lv_at hl 2 rfl) ?_
        refine va_get (D := gD G) (cl := vwCl) (tys := gT G) (ci := 2) (v := .int (xi S 3)) (C := RX0) (T := TX0) (N := 12) hx hb hw inB_X0 hown hE.K hP 0 rfl rfl 8 (by decide) (hw _ bw102) (fun _ h9 => h9) rfl dX0_handTime_34 ?_
        refine lv_goto (tgt := 41) hx hb dX0_handTime_37 (by decide) ?_
        refine lv_istore (lv' := [(4, .int (xi S 3)), (3, .int (xi S 2)), (2, .int (p0 - p0 / (3 : Int32) * (3 : Int32))), (0, .ref (a 0)), (1, .int p0)]) hx hb dX0_handTime_41 hl (Nat.le_of_ble_eq_true rfl) rfl (fun ls hl => ?_)
        refine lv_aload_n hx hb dX0_handTime_43 rfl (lv_at hl 3 rfl) ?_
        refine va_get (D := gD G) (cl := vwCl) (tys := gT G) (ci := 2) (v := .int (xi S 0)) (C := RX0) (T := TX0) (N := 12) hx hb hw inB_X0 hown hE.K hP 0 rfl rfl 5 (by decide) (hw _ bw99) (fun _ h9 => h9) rfl dX0_handTime_44 ?_
        refine lv_aload_n hx hb dX0_handTime_47 rfl (lv_at hl 3 rfl) ?_
        refine va_get (D := gD G) (cl := vwCl) (tys := gT G) (ci := 2) (v := .int (xi S 1)) (C := RX0) (T := TX0) (N := 12) hx hb hw inB_X0 hown hE.K hP 0 rfl rfl 6 (by decide) (hw _ bw100) (fun _ h9 => h9) rfl dX0_handTime_48 ?_
        refine lv_iload_n hx hb dX0_handTime_51 rfl (lv_at hl 1 rfl) ?_
        refine lv_iload hx hb dX0_handTime_52 (lv_at hl 0 rfl) ?_
        refine rcSl (as := [.int (xi S 0), .int (xi S 1), .int (xi S 2), .int (xi S 3)]) (rest := []) C (c_X0_timeOf l G (xi S 0) (xi S 1) (xi S 2) (xi S 3)) F_X0_timeOf rfl bw164 bw165 hE vpn hl.1 dX0_handTime_54 ⟨Nat.le_of_ble_eq_true rfl, Nat.le_of_ble_eq_true rfl⟩ rfl (Nat.le_of_ble_eq_true rfl) ⟨Nat.zero_le _, Nat.zero_le _⟩ ?_
        exact re_l hx hb hr hk dX0_handTime_57 (el (Eq.trans (if_neg c_1) (Eq.trans (if_neg c_2) (if_neg c_4))))
  · refine lv_iconst (v := (2 : Int32)) hx hb dX0_handTime_6 (by decide) ?_
    refine lv_goto (tgt := 13) hx hb dX0_handTime_7 (by decide) ?_
    refine lv_istore_n (lv' := [(2, .int (2 : Int32)), (0, .ref (a 0)), (1, .int p0)]) hx hb dX0_handTime_13 rfl hl (Nat.le_of_ble_eq_true rfl) rfl (fun ls hl => ?_)
    refine lv_iload_n hx hb dX0_handTime_14 rfl (lv_at hl 0 rfl) ?_
    refine lv_iconst (v := (1 : Int32)) hx hb dX0_handTime_15 (by decide) ?_
    refine lv_icmp_lt (tgt := 26) hx hb dX0_handTime_16 (by decide) (fun c_x => absurd c_x (by decide)) (fun _ => ?_)
    refine lv_aload_n hx hb dX0_handTime_19 rfl (lv_at hl 1 rfl) ?_
    refine va_get (D := gD G) (cl := vwCl) (tys := gT G) (ci := 2) (v := .int (xi S 2)) (C := RX0) (T := TX0) (N := 12) hx hb hw inB_X0 hown hE.K hP 0 rfl rfl 7 (by decide) (hw _ bw101) (fun _ h9 => h9) rfl dX0_handTime_20 ?_
    refine lv_goto (tgt := 27) hx hb dX0_handTime_23 (by decide) ?_
    refine lv_istore_n (lv' := [(3, .int (xi S 2)), (2, .int (2 : Int32)), (0, .ref (a 0)), (1, .int p0)]) hx hb dX0_handTime_27 rfl hl (Nat.le_of_ble_eq_true rfl) rfl (fun ls hl => ?_)
    refine lv_iload_n hx hb dX0_handTime_28 rfl (lv_at hl 1 rfl) ?_
    refine lv_iconst (v := (2 : Int32)) hx hb dX0_handTime_29 (by decide) ?_
    refine lv_icmp_lt (tgt := 40) hx hb dX0_handTime_30 (by decide) (fun c_x => absurd c_x (by decide)) (fun _ => ?_)
    refine lv_aload_n hx hb dX0_handTime_33 rfl (lv_at hl 2 rfl) ?_
    refine va_get (D := gD G) (cl := vwCl) (tys := gT G) (ci := 2) (v := .int (xi S 3)) (C := RX0) (T := TX0) (N := 12) hx hb hw inB_X0 hown hE.K hP 0 rfl rfl 8 (by decide) (hw _ bw102) (fun _ h9 => h9) rfl dX0_handTime_34 ?_
    refine lv_goto (tgt := 41) hx hb dX0_handTime_37 (by decide) ?_
    refine lv_istore (lv' := [(4, .int (xi S 3)), (3, .int (xi S 2)), (2, .int (2 : Int32)), (0, .ref (a 0)), (1, .int p0)]) hx hb dX0_handTime_41 hl (Nat.le_of_ble_eq_true rfl) rfl (fun ls hl => ?_)
    refine lv_aload_n hx hb dX0_handTime_43 rfl (lv_at hl 3 rfl) ?_
    refine va_get (D := gD G) (cl := vwCl) (tys := gT G) (ci := 2) (v := .int (xi S 0)) (C := RX0) (T := TX0) (N := 12) hx hb hw inB_X0 hown hE.K hP 0 rfl rfl 5 (by decide) (hw _ bw99) (fun _ h9 => h9) rfl dX0_handTime_44 ?_
    refine lv_aload_n hx hb dX0_handTime_47 rfl (lv_at hl 3 rfl) ?_
    refine va_get (D := gD G) (cl := vwCl) (tys := gT G) (ci := 2) (v := .int (xi S 1)) (C := RX0) (T := TX0) (N := 12) hx hb hw inB_X0 hown hE.K hP 0 rfl rfl 6 (by decide) (hw _ bw100) (fun _ h9 => h9) rfl dX0_handTime_48 ?_
    refine lv_iload_n hx hb dX0_handTime_51 rfl (lv_at hl 1 rfl) ?_
    refine lv_iload hx hb dX0_handTime_52 (lv_at hl 0 rfl) ?_
    refine rcSl (as := [.int (xi S 0), .int (xi S 1), .int (xi S 2), .int (xi S 3)]) (rest := []) C (c_X0_timeOf l G (xi S 0) (xi S 1) (xi S 2) (xi S 3)) F_X0_timeOf rfl bw164 bw165 hE vpn hl.1 dX0_handTime_54 ⟨Nat.le_of_ble_eq_true rfl, Nat.le_of_ble_eq_true rfl⟩ rfl (Nat.le_of_ble_eq_true rfl) ⟨Nat.zero_le _, Nat.zero_le _⟩ ?_
    exact re_l hx hb hr hk dX0_handTime_57 (el (if_pos c_1))

