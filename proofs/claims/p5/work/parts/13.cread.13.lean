set_option maxRecDepth 100000 in
set_option maxHeartbeats 4000000 in
theorem c_X2_weekDayNow (l : Launch) (G : GT) (b : Nat → Nat) (T : SM) (p0 : Int32) (h0 : vp_in p0 6) (hT : MO T) : RO l G yX2_weekDayNow cX2_weekDayNow 2 (some .int) 6 [.ref (b 0), .int p0] (wM G b T) (some (.int (fX2_weekDayNow T p0))) := by
  refine RO.ofW (own := RX2) rfl (by decide +kernel) (Nat.le_of_ble_eq_true rfl) ?_
  intro p e s m below meth c C hr hk hE hP ls hl
  have hx := C.1
  have hb := C.2.1
  have hown := C.2.2.2.1
  have hw := C.2.2.2.2
  have hl : lv_has ls 2 [(0, .ref (b 0)), (1, .int p0)] := hl
  refine lv_aload_n hx hb dX2_weekDayNow_0 rfl (lv_at hl 0 rfl) ?_
  refine lv_iload_n hx hb dX2_weekDayNow_1 rfl (lv_at hl 1 rfl) ?_
  refine rcVl (as := [.int p0]) (rest := []) (cl := RX2) C (c_X2_dayNow l G b T p0 h0 hT) F_X2_dayNow rfl bw1247 bw1249 bw38 hE hP (va_recv hE.K hP (ci := 4) (q0 := 0) rfl rfl) hl.1 dX2_weekDayNow_2 ⟨Nat.le_of_ble_eq_true rfl, Nat.le_of_ble_eq_true rfl⟩ rfl (Nat.le_of_ble_eq_true rfl) ⟨Nat.zero_le _, Nat.zero_le _⟩ ?_
  refine rcSi (as := [.long (fX2_dayNow T p0)]) (rest := []) C (c_X2_weekDay l G (fX2_dayNow T p0)) F_X2_weekDay rfl bw1271 bw1272 hE vpn hl.1 dX2_weekDayNow_5 ⟨Nat.le_of_ble_eq_true rfl, Nat.le_of_ble_eq_true rfl⟩ rfl (Nat.le_of_ble_eq_true rfl) ⟨Nat.zero_le _, Nat.zero_le _⟩ ?_
  exact re_i hx hb hr hk dX2_weekDayNow_8 (ei rfl)

set_option maxRecDepth 100000 in
set_option maxHeartbeats 4000000 in
theorem c_X2_handTime (l : Launch) (G : GT) (b : Nat → Nat) (T : SM) (p0 : Int32) : RO l G yX2_handTime cX2_handTime 4 (some .long) 1 [.ref (b 0), .int p0] (wM G b T) (some (.long (fX2_handTime T p0))) := by
  refine RO.ofW (own := RX2) rfl (by decide +kernel) (Nat.le_of_ble_eq_true rfl) ?_
  intro p e s m below meth c C hr hk hE hP ls hl
  have hx := C.1
  have hb := C.2.1
  have hown := C.2.2.2.1
  have hw := C.2.2.2.2
  have hl : lv_has ls 4 [(0, .ref (b 0)), (1, .int p0)] := hl
  refine lv_ldc2 (v := (60 : Int64)) hx hb hown (hw _ bw1237) dX2_handTime_0 ?_
  refine lv_bipush (v := (60 : Int32)) hx hb dX2_handTime_3 (by decide) ?_
  refine lv_aload_n hx hb dX2_handTime_5 rfl (lv_at hl 0 rfl) ?_
  refine va_get (D := gD G) (cl := vwCl) (tys := gT G) (ci := 4) (v := .int (mi T 0)) (C := RX2) (T := TX2) (N := 12) hx hb hw inB_X2 hown hE.K hP 0 rfl rfl 5 (by decide) (hw _ bw1168) (fun _ h9 => h9) rfl dX2_handTime_6 ?_
  refine lv_imul hx hb dX2_handTime_9 ?_
  refine lv_aload_n hx hb dX2_handTime_10 rfl (lv_at hl 0 rfl) ?_
  refine va_get (D := gD G) (cl := vwCl) (tys := gT G) (ci := 4) (v := .int (mi T 1)) (C := RX2) (T := TX2) (N := 12) hx hb hw inB_X2 hown hE.K hP 0 rfl rfl 6 (by decide) (hw _ bw1169) (fun _ h9 => h9) rfl dX2_handTime_11 ?_
  refine lv_iadd hx hb dX2_handTime_14 ?_
  refine lv_i2l (v := ((((60 : Int32) * (mi T 0)) + (mi T 1)).toInt64)) hx hb dX2_handTime_15 (by first | rfl | decide) ?_
  refine lv_lmul hx hb dX2_handTime_16 ?_
  refine lv_ldc2 (v := (1000000000 : Int64)) hx hb hown (hw _ bw1238) dX2_handTime_17 ?_
  refine lv_lmul hx hb dX2_handTime_20 ?_
  refine lv_lstore_n (lv' := [(2, .long (((60 : Int64) * ((((60 : Int32) * (mi T 0)) + (mi T 1)).toInt64)) * (1000000000 : Int64))), (0, .ref (b 0)), (1, .int p0)]) hx hb dX2_handTime_21 rfl hl (Nat.le_of_ble_eq_true rfl) rfl (fun ls hl => ?_)
  refine lv_iload_n hx hb dX2_handTime_22 rfl (lv_at hl 2 rfl) ?_
  refine lv_if_le (tgt := 38) hx hb dX2_handTime_23 (by decide) (fun c_1 => ?_) (fun c_1 => ?_)
  · refine lv_iload_n hx hb dX2_handTime_38 rfl (lv_at hl 2 rfl) ?_
    refine lv_iconst (v := (1 : Int32)) hx hb dX2_handTime_39 (by decide) ?_
    refine lv_icmp_le (tgt := 53) hx hb dX2_handTime_40 (by decide) (fun c_2 => ?_) (fun c_2 => ?_)
    · refine lv_lload_n hx hb dX2_handTime_53 rfl (lv_at hl 0 rfl) ?_
      exact re_l hx hb hr hk dX2_handTime_54 (el (Eq.trans (if_pos c_1) (if_pos c_2)))
    · refine lv_lload_n hx hb dX2_handTime_43 rfl (lv_at hl 0 rfl) ?_
      refine lv_aload_n hx hb dX2_handTime_44 rfl (lv_at hl 1 rfl) ?_
      refine va_get (D := gD G) (cl := vwCl) (tys := gT G) (ci := 4) (v := .int (mi T 3)) (C := RX2) (T := TX2) (N := 12) hx hb hw inB_X2 hown hE.K hP 0 rfl rfl 8 (by decide) (hw _ bw1171) (fun _ h9 => h9) rfl dX2_handTime_45 ?_
      refine lv_i2l (v := ((mi T 3).toInt64)) hx hb dX2_handTime_48 (by first | rfl | decide) ?_
      refine lv_ladd hx hb dX2_handTime_49 ?_
      refine lv_goto (tgt := 54) hx hb dX2_handTime_50 (by decide) ?_
      exact re_l hx hb hr hk dX2_handTime_54 (el (Eq.trans (if_pos c_1) (if_neg c_2)))
  · refine lv_lload_n hx hb dX2_handTime_26 rfl (lv_at hl 0 rfl) ?_
    refine lv_aload_n hx hb dX2_handTime_27 rfl (lv_at hl 1 rfl) ?_
    refine va_get (D := gD G) (cl := vwCl) (tys := gT G) (ci := 4) (v := .int (mi T 2)) (C := RX2) (T := TX2) (N := 12) hx hb hw inB_X2 hown hE.K hP 0 rfl rfl 7 (by decide) (hw _ bw1170) (fun _ h9 => h9) rfl dX2_handTime_28 ?_
    refine lv_i2l (v := ((mi T 2).toInt64)) hx hb dX2_handTime_31 (by first | rfl | decide) ?_
    refine lv_ldc2 (v := (1000000000 : Int64)) hx hb hown (hw _ bw1238) dX2_handTime_32 ?_
    refine lv_lmul hx hb dX2_handTime_35 ?_
    refine lv_ladd hx hb dX2_handTime_36 ?_
    refine lv_lstore_n (lv' := [(2, .long ((((60 : Int64) * ((((60 : Int32) * (mi T 0)) + (mi T 1)).toInt64)) * (1000000000 : Int64)) + (((mi T 2).toInt64) * (1000000000 : Int64)))), (0, .ref (b 0)), (1, .int p0)]) hx hb dX2_handTime_37 rfl hl (Nat.le_of_ble_eq_true rfl) rfl (fun ls hl => ?_)
    refine lv_iload_n hx hb dX2_handTime_38 rfl (lv_at hl 2 rfl) ?_
    refine lv_iconst (v := (1 : Int32)) hx hb dX2_handTime_39 (by decide) ?_
    refine lv_icmp_le (tgt := 53) hx hb dX2_handTime_40 (by decide) (fun c_3 => ?_) (fun c_3 => ?_)
    · refine lv_lload_n hx hb dX2_handTime_53 rfl (lv_at hl 0 rfl) ?_
      exact re_l hx hb hr hk dX2_handTime_54 (el (Eq.trans (if_neg c_1) (if_pos c_3)))
    · refine lv_lload_n hx hb dX2_handTime_43 rfl (lv_at hl 0 rfl) ?_
      refine lv_aload_n hx hb dX2_handTime_44 rfl (lv_at hl 1 rfl) ?_
      refine va_get (D := gD G) (cl := vwCl) (tys := gT G) (ci := 4) (v := .int (mi T 3)) (C := RX2) (T := TX2) (N := 12) hx hb hw inB_X2 hown hE.K hP 0 rfl rfl 8 (by decide) (hw _ bw1171) (fun _ h9 => h9) rfl dX2_handTime_45 ?_
      refine lv_i2l (v := ((mi T 3).toInt64)) hx hb dX2_handTime_48 (by first | rfl | decide) ?_
      refine lv_ladd hx hb dX2_handTime_49 ?_
      refine lv_goto (tgt := 54) hx hb dX2_handTime_50 (by decide) ?_
      exact re_l hx hb hr hk dX2_handTime_54 (el (Eq.trans (if_neg c_1) (if_neg c_3)))

set_option maxRecDepth 100000 in
set_option maxHeartbeats 4000000 in
theorem c_X2_inYearNow (l : Launch) (G : GT) (b : Nat → Nat) (T : SM) (p0 : Int32) (h0 : vp_in p0 6) (hT : MO T) : RO l G yX2_inYearNow cX2_inYearNow 2 (some .int) 4 [.ref (b 0), .int p0] (wM G b T) (some (.int (fX2_inYearNow T p0))) := by
  refine RO.ofW (own := RX2) rfl (by decide +kernel) (Nat.le_of_ble_eq_true rfl) ?_
  intro p e s m below meth c C hr hk hE hP ls hl
  have hx := C.1
  have hb := C.2.1
  have hown := C.2.2.2.1
  have hw := C.2.2.2.2
  have hl : lv_has ls 2 [(0, .ref (b 0)), (1, .int p0)] := hl
  refine lv_aload_n hx hb dX2_inYearNow_0 rfl (lv_at hl 0 rfl) ?_
  refine va_get (D := gD G) (cl := vwCl) (tys := gT G) (ci := 4) (v := .ref (b 1)) (C := RX2) (T := TX2) (N := 12) hx hb hw inB_X2 hown hE.K hP 0 rfl rfl 1 (by decide) (hw _ bw1164) (fun _ h9 => h9) rfl dX2_inYearNow_1 ?_
  refine lv_iload_n hx hb dX2_inYearNow_4 rfl (lv_at hl 1 rfl) ?_
  refine va_iald (tys := gT G) hx hb hE.K hP 1 0 rfl rfl h0 dX2_inYearNow_5 ?_
  refine lv_aload_n hx hb dX2_inYearNow_6 rfl (lv_at hl 0 rfl) ?_
  refine va_get (D := gD G) (cl := vwCl) (tys := gT G) (ci := 4) (v := .ref (b 2)) (C := RX2) (T := TX2) (N := 12) hx hb hw inB_X2 hown hE.K hP 0 rfl rfl 2 (by decide) (hw _ bw1165) (fun _ h9 => h9) rfl dX2_inYearNow_7 ?_
  refine lv_iload_n hx hb dX2_inYearNow_10 rfl (lv_at hl 1 rfl) ?_
  refine va_iald (tys := gT G) hx hb hE.K hP 2 0 rfl rfl h0 dX2_inYearNow_11 ?_
  refine lv_aload_n hx hb dX2_inYearNow_12 rfl (lv_at hl 0 rfl) ?_
  refine va_get (D := gD G) (cl := vwCl) (tys := gT G) (ci := 4) (v := .ref (b 3)) (C := RX2) (T := TX2) (N := 12) hx hb hw inB_X2 hown hE.K hP 0 rfl rfl 3 (by decide) (hw _ bw1166) (fun _ h9 => h9) rfl dX2_inYearNow_13 ?_
  refine lv_iload_n hx hb dX2_inYearNow_16 rfl (lv_at hl 1 rfl) ?_
  refine va_iald (tys := gT G) hx hb hE.K hP 3 0 rfl rfl h0 dX2_inYearNow_17 ?_
  refine rcSi (as := [.int (my T p0.toNatClampNeg), .int (mm T p0.toNatClampNeg), .int (md T p0.toNatClampNeg)]) (rest := []) C (c_X2_inYear l G (my T p0.toNatClampNeg) (mm T p0.toNatClampNeg) (md T p0.toNatClampNeg) (MO.at hT h0)) F_X2_inYear rfl bw1268 bw1269 hE vpn hl.1 dX2_inYearNow_18 ⟨Nat.le_of_ble_eq_true rfl, Nat.le_of_ble_eq_true rfl⟩ rfl (Nat.le_of_ble_eq_true rfl) ⟨Nat.zero_le _, Nat.zero_le _⟩ ?_
  exact re_i hx hb hr hk dX2_inYearNow_21 (ei rfl)

set_option maxRecDepth 100000 in
set_option maxHeartbeats 4000000 in
theorem c_X2_part (l : Launch) (G : GT) (b : Nat → Nat) (T : SM) (p0 : Int32) (p1 : Int64) (p2 : Int64) (h0 : vp_in p0 6) (n1 : ¬ p1 = 0) (n2 : ¬ p2 = 0) : RO l G yX2_part cX2_part 6 (some .int) 1 [.ref (b 0), .int p0, .long p1, .long p2] (wM G b T) (some (.int (fX2_part T p0 p1 p2))) := by
  refine RO.ofW (own := RX2) rfl (by decide +kernel) (Nat.le_of_ble_eq_true rfl) ?_
  intro p e s m below meth c C hr hk hE hP ls hl
  have hx := C.1
  have hb := C.2.1
  have hown := C.2.2.2.1
  have hw := C.2.2.2.2
  have hl : lv_has ls 6 [(0, .ref (b 0)), (1, .int p0), (2, .long p1), (4, .long p2)] := hl
  refine lv_aload_n hx hb dX2_part_0 rfl (lv_at hl 0 rfl) ?_
  refine va_get (D := gD G) (cl := vwCl) (tys := gT G) (ci := 4) (v := .ref (b 4)) (C := RX2) (T := TX2) (N := 12) hx hb hw inB_X2 hown hE.K hP 0 rfl rfl 4 (by decide) (hw _ bw1167) (fun _ h9 => h9) rfl dX2_part_1 ?_
  refine lv_iload_n hx hb dX2_part_4 rfl (lv_at hl 1 rfl) ?_
  refine va_lald (tys := gT G) hx hb hE.K hP 4 1 rfl rfl h0 dX2_part_5 ?_
  refine lv_lload_n hx hb dX2_part_6 rfl (lv_at hl 2 rfl) ?_
  refine lv_ldiv hx hb dX2_part_7 n1 ?_
  refine lv_lload hx hb dX2_part_8 (lv_at hl 3 rfl) ?_
  refine lv_lrem hx hb dX2_part_10 n2 ?_
  refine lv_l2i (v := ((((mt T p0.toNatClampNeg) / p1) - ((mt T p0.toNatClampNeg) / p1) / p2 * p2).toInt32)) hx hb dX2_part_11 (by first | rfl | decide) ?_
  exact re_i hx hb hr hk dX2_part_12 (ei rfl)

