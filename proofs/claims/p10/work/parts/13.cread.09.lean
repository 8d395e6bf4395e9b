set_option maxRecDepth 100000 in
set_option maxHeartbeats 4000000 in
theorem c_X2_houseNow (l : Launch) (G : GT) (b : Nat → Nat) (T : SM) (p0 : Int32) (hT : MO T) : RO l G yX2_houseNow cX2_houseNow 2 (some .int) 8 [.ref (b 0), .int p0] (wM G b T) (some (.int (fX2_houseNow T p0))) := by
  refine RO.ofW (own := RX2) rfl (by decide +kernel) (Nat.le_of_ble_eq_true rfl) ?_
  intro p e s m below meth c C hr hk hE hP ls hl
  have hx := C.1
  have hb := C.2.1
  have hown := C.2.2.2.1
  have hw := C.2.2.2.2
  have hl : lv_has ls 2 [(0, .ref (b 0)), (1, .int p0)] := hl
  refine lv_iload_n hx hb dX2_houseNow_0 rfl (lv_at hl 1 rfl) ?_
  by_cases c_1 : p0 = (0 : Int32)
  · refine lv_tableIn (tgt := 36) (off := 35) hx hb dX2_houseNow_1 (by rw [c_1]; decide) (by rw [c_1]; decide) (by rw [c_1]; decide) (by decide) ?_
    refine lv_aload_n hx hb dX2_houseNow_36 rfl (lv_at hl 0 rfl) ?_
    refine va_get (D := gD G) (cl := vwCl) (tys := gT G) (ci := 4) (v := .int (mi T 4)) (C := RX2) (T := TX2) (N := 12) hx hb hw inB_X2 hown hE.K hP 0 rfl rfl 9 (by decide) (hw _ bw1172) (fun _ h9 => h9) rfl dX2_houseNow_37 ?_
    exact re_i hx hb hr hk dX2_houseNow_40 (ei (if_pos c_1))
  by_cases c_2 : p0 = (1 : Int32)
  · refine lv_tableIn (tgt := 41) (off := 40) hx hb dX2_houseNow_1 (by rw [c_2]; decide) (by rw [c_2]; decide) (by rw [c_2]; decide) (by decide) ?_
    refine lv_aload_n hx hb dX2_houseNow_41 rfl (lv_at hl 0 rfl) ?_
    refine va_get (D := gD G) (cl := vwCl) (tys := gT G) (ci := 4) (v := .int (mi T 5)) (C := RX2) (T := TX2) (N := 12) hx hb hw inB_X2 hown hE.K hP 0 rfl rfl 10 (by decide) (hw _ bw1173) (fun _ h9 => h9) rfl dX2_houseNow_42 ?_
    exact re_i hx hb hr hk dX2_houseNow_45 (ei (Eq.trans (if_neg c_1) (if_pos c_2)))
  by_cases c_3 : p0 = (2 : Int32)
  · refine lv_tableIn (tgt := 46) (off := 45) hx hb dX2_houseNow_1 (by rw [c_3]; decide) (by rw [c_3]; decide) (by rw [c_3]; decide) (by decide) ?_
    refine lv_aload_n hx hb dX2_houseNow_46 rfl (lv_at hl 0 rfl) ?_
    refine rcVi (as := []) (rest := []) (cl := RX2) C (c_X2_likeOnes l G b T hT) F_X2_likeOnes rfl bw1608 bw1610 bw54 hE hP (rv4 hE.K hP (q0 := 0) rfl) hl.1 dX2_houseNow_47 ⟨Nat.le_of_ble_eq_true rfl, Nat.le_of_ble_eq_true rfl⟩ rfl (Nat.le_of_ble_eq_true rfl) ⟨Nat.zero_le _, Nat.zero_le _⟩ ?_
    exact re_i hx hb hr hk dX2_houseNow_50 (ei (Eq.trans (if_neg c_1) (Eq.trans (if_neg c_2) (if_pos c_3))))
  by_cases c_4 : p0 = (3 : Int32)
  · refine lv_tableIn (tgt := 51) (off := 50) hx hb dX2_houseNow_1 (by rw [c_4]; decide) (by rw [c_4]; decide) (by rw [c_4]; decide) (by decide) ?_
    refine lv_aload_n hx hb dX2_houseNow_51 rfl (lv_at hl 0 rfl) ?_
    refine lv_iconst (v := (-1 : Int32)) hx hb dX2_houseNow_52 (by decide) ?_
    refine rcVi (as := [.int (-1 : Int32)]) (rest := []) (cl := RX2) C (c_X2_outer l G b T (-1 : Int32) hT) F_X2_outer rfl bw1612 bw1614 bw55 hE hP (rv4 hE.K hP (q0 := 0) rfl) hl.1 dX2_houseNow_53 ⟨Nat.le_of_ble_eq_true rfl, Nat.le_of_ble_eq_true rfl⟩ rfl (Nat.le_of_ble_eq_true rfl) ⟨Nat.zero_le _, Nat.zero_le _⟩ ?_
    exact re_i hx hb hr hk dX2_houseNow_56 (ei (Eq.trans (if_neg c_1) (Eq.trans (if_neg c_2) (Eq.trans (if_neg c_3) (if_pos c_4)))))
  by_cases c_5 : p0 = (4 : Int32)
  · refine lv_tableIn (tgt := 57) (off := 56) hx hb dX2_houseNow_1 (by rw [c_5]; decide) (by rw [c_5]; decide) (by rw [c_5]; decide) (by decide) ?_
    refine lv_aload_n hx hb dX2_houseNow_57 rfl (lv_at hl 0 rfl) ?_
    refine lv_iconst (v := (1 : Int32)) hx hb dX2_houseNow_58 (by decide) ?_
    refine rcVi (as := [.int (1 : Int32)]) (rest := []) (cl := RX2) C (c_X2_outer l G b T (1 : Int32) hT) F_X2_outer rfl bw1612 bw1614 bw55 hE hP (rv4 hE.K hP (q0 := 0) rfl) hl.1 dX2_houseNow_59 ⟨Nat.le_of_ble_eq_true rfl, Nat.le_of_ble_eq_true rfl⟩ rfl (Nat.le_of_ble_eq_true rfl) ⟨Nat.zero_le _, Nat.zero_le _⟩ ?_
    exact re_i hx hb hr hk dX2_houseNow_62 (ei (Eq.trans (if_neg c_1) (Eq.trans (if_neg c_2) (Eq.trans (if_neg c_3) (Eq.trans (if_neg c_4) (if_pos c_5))))))
  have nc_1 := lv_neT c_1 (a := 0) (by decide)
  have nc_2 := lv_neT c_2 (a := 1) (by decide)
  have nc_3 := lv_neT c_3 (a := 2) (by decide)
  have nc_4 := lv_neT c_4 (a := 3) (by decide)
  have nc_5 := lv_neT c_5 (a := 4) (by decide)
  refine lv_tableOut (tgt := 63) hx hb dX2_houseNow_1 (by omega) (by decide) ?_
  refine lv_aload_n hx hb dX2_houseNow_63 rfl (lv_at hl 0 rfl) ?_
  refine va_get (D := gD G) (cl := vwCl) (tys := gT G) (ci := 4) (v := .int (mi T 6)) (C := RX2) (T := TX2) (N := 12) hx hb hw inB_X2 hown hE.K hP 0 rfl rfl 11 (by decide) (hw _ bw1174) (fun _ h9 => h9) rfl dX2_houseNow_64 ?_
  exact re_i hx hb hr hk dX2_houseNow_67 (ei (Eq.trans (if_neg c_1) (Eq.trans (if_neg c_2) (Eq.trans (if_neg c_3) (Eq.trans (if_neg c_4) (if_neg c_5))))))

set_option maxRecDepth 100000 in
set_option maxHeartbeats 4000000 in
theorem c_X2_thrown (l : Launch) (G : GT) (b : Nat → Nat) (T : SM) : RO l G yX2_thrown cX2_thrown 1 (some .int) 1 [.ref (b 0)] (wM G b T) (some (.int (fX2_thrown T))) := by
  refine RO.ofW (own := RX2) rfl (by decide +kernel) (Nat.le_of_ble_eq_true rfl) ?_
  intro p e s m below meth c C hr hk hE hP ls hl
  have hx := C.1
  have hb := C.2.1
  have hown := C.2.2.2.1
  have hw := C.2.2.2.2
  have hl : lv_has ls 1 [(0, .ref (b 0))] := hl
  refine lv_aload_n hx hb dX2_thrown_0 rfl (lv_at hl 0 rfl) ?_
  refine va_get (D := gD G) (cl := vwCl) (tys := gT G) (ci := 4) (v := .int (mth T)) (C := RX2) (T := TX2) (N := 12) hx hb hw inB_X2 hown hE.K hP 0 rfl rfl 0 (by decide) (hw _ bw1163) (fun _ h9 => h9) rfl dX2_thrown_1 ?_
  exact re_i hx hb hr hk dX2_thrown_4 (ei rfl)

set_option maxRecDepth 100000 in
set_option maxHeartbeats 4000000 in
theorem c_X0_year (l : Launch) (G : GT) (a : Nat → Nat) (S : SX) (p0 : Int32) (h0 : vp_in p0 6) : RO l G yX0_year cX0_year 2 (some .int) 2 [.ref (a 0), .int p0] (wX G a S) (some (.int (fX0_year S p0))) := by
  refine RO.ofW (own := RX0) rfl (by decide +kernel) (Nat.le_of_ble_eq_true rfl) ?_
  intro p e s m below meth c C hr hk hE hP ls hl
  have hx := C.1
  have hb := C.2.1
  have hown := C.2.2.2.1
  have hw := C.2.2.2.2
  have hl : lv_has ls 2 [(0, .ref (a 0)), (1, .int p0)] := hl
  refine lv_iload_n hx hb dX0_year_0 rfl (lv_at hl 1 rfl) ?_
  refine rcSv (as := [.int p0]) (rest := []) C (c_X0_checkMoment l G p0 h0) F_X0_checkMoment rfl bw387 bw388 hE vpn hl.1 dX0_year_1 ⟨Nat.le_of_ble_eq_true rfl, Nat.le_of_ble_eq_true rfl⟩ rfl (Nat.le_of_ble_eq_true rfl) ⟨Nat.zero_le _, Nat.zero_le _⟩ ?_
  refine lv_aload_n hx hb dX0_year_4 rfl (lv_at hl 0 rfl) ?_
  refine va_get (D := gD G) (cl := vwCl) (tys := gT G) (ci := 2) (v := .ref (a 1)) (C := RX0) (T := TX0) (N := 12) hx hb hw inB_X0 hown hE.K hP 0 rfl rfl 0 (by decide) (hw _ bw94) (fun _ h9 => h9) rfl dX0_year_5 ?_
  refine lv_iload_n hx hb dX0_year_8 rfl (lv_at hl 1 rfl) ?_
  refine va_iald (tys := gT G) hx hb hE.K hP 1 0 rfl rfl h0 dX0_year_9 ?_
  exact re_i hx hb hr hk dX0_year_10 (ei rfl)

set_option maxRecDepth 100000 in
set_option maxHeartbeats 4000000 in
theorem c_X0_month (l : Launch) (G : GT) (a : Nat → Nat) (S : SX) (p0 : Int32) (h0 : vp_in p0 6) : RO l G yX0_month cX0_month 2 (some .int) 2 [.ref (a 0), .int p0] (wX G a S) (some (.int (fX0_month S p0))) := by
  refine RO.ofW (own := RX0) rfl (by decide +kernel) (Nat.le_of_ble_eq_true rfl) ?_
  intro p e s m below meth c C hr hk hE hP ls hl
  have hx := C.1
  have hb := C.2.1
  have hown := C.2.2.2.1
  have hw := C.2.2.2.2
  have hl : lv_has ls 2 [(0, .ref (a 0)), (1, .int p0)] := hl
  refine lv_iload_n hx hb dX0_month_0 rfl (lv_at hl 1 rfl) ?_
  refine rcSv (as := [.int p0]) (rest := []) C (c_X0_checkMoment l G p0 h0) F_X0_checkMoment rfl bw387 bw388 hE vpn hl.1 dX0_month_1 ⟨Nat.le_of_ble_eq_true rfl, Nat.le_of_ble_eq_true rfl⟩ rfl (Nat.le_of_ble_eq_true rfl) ⟨Nat.zero_le _, Nat.zero_le _⟩ ?_
  refine lv_aload_n hx hb dX0_month_4 rfl (lv_at hl 0 rfl) ?_
  refine va_get (D := gD G) (cl := vwCl) (tys := gT G) (ci := 2) (v := .ref (a 2)) (C := RX0) (T := TX0) (N := 12) hx hb hw inB_X0 hown hE.K hP 0 rfl rfl 1 (by decide) (hw _ bw95) (fun _ h9 => h9) rfl dX0_month_5 ?_
  refine lv_iload_n hx hb dX0_month_8 rfl (lv_at hl 1 rfl) ?_
  refine va_iald (tys := gT G) hx hb hE.K hP 2 0 rfl rfl h0 dX0_month_9 ?_
  exact re_i hx hb hr hk dX0_month_10 (ei rfl)

set_option maxRecDepth 100000 in
set_option maxHeartbeats 4000000 in
theorem c_X0_dayOfMonth (l : Launch) (G : GT) (a : Nat → Nat) (S : SX) (p0 : Int32) (h0 : vp_in p0 6) : RO l G yX0_dayOfMonth cX0_dayOfMonth 2 (some .int) 2 [.ref (a 0), .int p0] (wX G a S) (some (.int (fX0_dayOfMonth S p0))) := by
  refine RO.ofW (own := RX0) rfl (by decide +kernel) (Nat.le_of_ble_eq_true rfl) ?_
  intro p e s m below meth c C hr hk hE hP ls hl
  have hx := C.1
  have hb := C.2.1
  have hown := C.2.2.2.1
  have hw := C.2.2.2.2
  have hl : lv_has ls 2 [(0, .ref (a 0)), (1, .int p0)] := hl
  refine lv_iload_n hx hb dX0_dayOfMonth_0 rfl (lv_at hl 1 rfl) ?_
  refine rcSv (as := [.int p0]) (rest := []) C (c_X0_checkMoment l G p0 h0) F_X0_checkMoment rfl bw387 bw388 hE vpn hl.1 dX0_dayOfMonth_1 ⟨Nat.le_of_ble_eq_true rfl, Nat.le_of_ble_eq_true rfl⟩ rfl (Nat.le_of_ble_eq_true rfl) ⟨Nat.zero_le _, Nat.zero_le _⟩ ?_
  refine lv_aload_n hx hb dX0_dayOfMonth_4 rfl (lv_at hl 0 rfl) ?_
  refine va_get (D := gD G) (cl := vwCl) (tys := gT G) (ci := 2) (v := .ref (a 3)) (C := RX0) (T := TX0) (N := 12) hx hb hw inB_X0 hown hE.K hP 0 rfl rfl 2 (by decide) (hw _ bw96) (fun _ h9 => h9) rfl dX0_dayOfMonth_5 ?_
  refine lv_iload_n hx hb dX0_dayOfMonth_8 rfl (lv_at hl 1 rfl) ?_
  refine va_iald (tys := gT G) hx hb hE.K hP 3 0 rfl rfl h0 dX0_dayOfMonth_9 ?_
  exact re_i hx hb hr hk dX0_dayOfMonth_10 (ei rfl)

set_option maxRecDepth 100000 in
set_option maxHeartbeats 4000000 in
theorem c_X0_dayOfYear (l : Launch) (G : GT) (a : Nat → Nat) (S : SX) (p0 : Int32) (h0 : vp_in p0 6) : RO l G yX0_dayOfYear cX0_dayOfYear 2 (some .int) 4 [.ref (a 0), .int p0] (wX G a S) (some (.int (fX0_dayOfYear S p0))) := by
  refine RO.ofW (own := RX0) rfl (by decide +kernel) (Nat.le_of_ble_eq_true rfl) ?_
  intro p e s m below meth c C hr hk hE hP ls hl
  have hx := C.1
  have hb := C.2.1
  have hown := C.2.2.2.1
  have hw := C.2.2.2.2
  have hl : lv_has ls 2 [(0, .ref (a 0)), (1, .int p0)] := hl
  refine lv_iload_n hx hb dX0_dayOfYear_0 rfl (lv_at hl 1 rfl) ?_
  refine rcSv (as := [.int p0]) (rest := []) C (c_X0_checkMoment l G p0 h0) F_X0_checkMoment rfl bw387 bw388 hE vpn hl.1 dX0_dayOfYear_1 ⟨Nat.le_of_ble_eq_true rfl, Nat.le_of_ble_eq_true rfl⟩ rfl (Nat.le_of_ble_eq_true rfl) ⟨Nat.zero_le _, Nat.zero_le _⟩ ?_
  refine lv_aload_n hx hb dX0_dayOfYear_4 rfl (lv_at hl 0 rfl) ?_
  refine lv_iload_n hx hb dX0_dayOfYear_5 rfl (lv_at hl 1 rfl) ?_
  refine rcVi (as := [.int p0]) (rest := []) (cl := RX0) C (c_X0_yearDay l G a S p0 h0) F_X0_yearDay rfl bw182 bw184 bw3 hE hP (rv2 hE.K hP (q0 := 0) rfl) hl.1 dX0_dayOfYear_6 ⟨Nat.le_of_ble_eq_true rfl, Nat.le_of_ble_eq_true rfl⟩ rfl (Nat.le_of_ble_eq_true rfl) ⟨Nat.zero_le _, Nat.zero_le _⟩ ?_
  exact re_i hx hb hr hk dX0_dayOfYear_9 (ei rfl)

set_option maxRecDepth 100000 in
set_option maxHeartbeats 4000000 in
theorem c_X0_dayOfWeek (l : Launch) (G : GT) (a : Nat → Nat) (S : SX) (p0 : Int32) (h0 : vp_in p0 6) : RO l G yX0_dayOfWeek cX0_dayOfWeek 2 (some .int) 3 [.ref (a 0), .int p0] (wX G a S) (some (.int (fX0_dayOfWeek S p0))) := by
  refine RO.ofW (own := RX0) rfl (by decide +kernel) (Nat.le_of_ble_eq_true rfl) ?_
  intro p e s m below meth c C hr hk hE hP ls hl
  have hx := C.1
  have hb := C.2.1
  have hown := C.2.2.2.1
  have hw := C.2.2.2.2
  have hl : lv_has ls 2 [(0, .ref (a 0)), (1, .int p0)] := hl
  refine lv_iload_n hx hb dX0_dayOfWeek_0 rfl (lv_at hl 1 rfl) ?_
  refine rcSv (as := [.int p0]) (rest := []) C (c_X0_checkMoment l G p0 h0) F_X0_checkMoment rfl bw387 bw388 hE vpn hl.1 dX0_dayOfWeek_1 ⟨Nat.le_of_ble_eq_true rfl, Nat.le_of_ble_eq_true rfl⟩ rfl (Nat.le_of_ble_eq_true rfl) ⟨Nat.zero_le _, Nat.zero_le _⟩ ?_
  refine lv_aload_n hx hb dX0_dayOfWeek_4 rfl (lv_at hl 0 rfl) ?_
  refine va_get (D := gD G) (cl := vwCl) (tys := gT G) (ci := 2) (v := .ref (a 4)) (C := RX0) (T := TX0) (N := 12) hx hb hw inB_X0 hown hE.K hP 0 rfl rfl 3 (by decide) (hw _ bw97) (fun _ h9 => h9) rfl dX0_dayOfWeek_5 ?_
  refine lv_iload_n hx hb dX0_dayOfWeek_8 rfl (lv_at hl 1 rfl) ?_
  refine va_lald (tys := gT G) hx hb hE.K hP 4 1 rfl rfl h0 dX0_dayOfWeek_9 ?_
  refine rcSi (as := [.long (xD S p0.toNatClampNeg)]) (rest := []) C (c_X0_weekday l G (xD S p0.toNatClampNeg)) F_X0_weekday rfl bw262 bw263 hE vpn hl.1 dX0_dayOfWeek_10 ⟨Nat.le_of_ble_eq_true rfl, Nat.le_of_ble_eq_true rfl⟩ rfl (Nat.le_of_ble_eq_true rfl) ⟨Nat.zero_le _, Nat.zero_le _⟩ ?_
  exact re_i hx hb hr hk dX0_dayOfWeek_13 (ei rfl)

set_option maxRecDepth 100000 in
set_option maxHeartbeats 4000000 in
theorem c_X0_hour (l : Launch) (G : GT) (a : Nat → Nat) (S : SX) (p0 : Int32) (h0 : vp_in p0 6) : RO l G yX0_hour cX0_hour 2 (some .int) 2 [.ref (a 0), .int p0] (wX G a S) (some (.int (fX0_hour S p0))) := by
  refine RO.ofW (own := RX0) rfl (by decide +kernel) (Nat.le_of_ble_eq_true rfl) ?_
  intro p e s m below meth c C hr hk hE hP ls hl
  have hx := C.1
  have hb := C.2.1
  have hown := C.2.2.2.1
  have hw := C.2.2.2.2
  have hl : lv_has ls 2 [(0, .ref (a 0)), (1, .int p0)] := hl
  refine lv_iload_n hx hb dX0_hour_0 rfl (lv_at hl 1 rfl) ?_
  refine rcSv (as := [.int p0]) (rest := []) C (c_X0_checkMoment l G p0 h0) F_X0_checkMoment rfl bw387 bw388 hE vpn hl.1 dX0_hour_1 ⟨Nat.le_of_ble_eq_true rfl, Nat.le_of_ble_eq_true rfl⟩ rfl (Nat.le_of_ble_eq_true rfl) ⟨Nat.zero_le _, Nat.zero_le _⟩ ?_
  refine lv_aload_n hx hb dX0_hour_4 rfl (lv_at hl 0 rfl) ?_
  refine va_get (D := gD G) (cl := vwCl) (tys := gT G) (ci := 2) (v := .ref (a 5)) (C := RX0) (T := TX0) (N := 12) hx hb hw inB_X0 hown hE.K hP 0 rfl rfl 4 (by decide) (hw _ bw98) (fun _ h9 => h9) rfl dX0_hour_5 ?_
  refine lv_iload_n hx hb dX0_hour_8 rfl (lv_at hl 1 rfl) ?_
  refine va_lald (tys := gT G) hx hb hE.K hP 5 1 rfl rfl h0 dX0_hour_9 ?_
  refine rcSi (as := [.long (xN S p0.toNatClampNeg)]) (rest := []) C (c_X0_hourOf l G (xN S p0.toNatClampNeg)) F_X0_hourOf rfl bw149 bw150 hE vpn hl.1 dX0_hour_10 ⟨Nat.le_of_ble_eq_true rfl, Nat.le_of_ble_eq_true rfl⟩ rfl (Nat.le_of_ble_eq_true rfl) ⟨Nat.zero_le _, Nat.zero_le _⟩ ?_
  exact re_i hx hb hr hk dX0_hour_13 (ei rfl)

set_option maxRecDepth 100000 in
set_option maxHeartbeats 4000000 in
theorem c_X0_minute (l : Launch) (G : GT) (a : Nat → Nat) (S : SX) (p0 : Int32) (h0 : vp_in p0 6) : RO l G yX0_minute cX0_minute 2 (some .int) 2 [.ref (a 0), .int p0] (wX G a S) (some (.int (fX0_minute S p0))) := by
  refine RO.ofW (own := RX0) rfl (by decide +kernel) (Nat.le_of_ble_eq_true rfl) ?_
  intro p e s m below meth c C hr hk hE hP ls hl
  have hx := C.1
  have hb := C.2.1
  have hown := C.2.2.2.1
  have hw := C.2.2.2.2
  have hl : lv_has ls 2 [(0, .ref (a 0)), (1, .int p0)] := hl
  refine lv_iload_n hx hb dX0_minute_0 rfl (lv_at hl 1 rfl) ?_
  refine rcSv (as := [.int p0]) (rest := []) C (c_X0_checkMoment l G p0 h0) F_X0_checkMoment rfl bw387 bw388 hE vpn hl.1 dX0_minute_1 ⟨Nat.le_of_ble_eq_true rfl, Nat.le_of_ble_eq_true rfl⟩ rfl (Nat.le_of_ble_eq_true rfl) ⟨Nat.zero_le _, Nat.zero_le _⟩ ?_
  refine lv_aload_n hx hb dX0_minute_4 rfl (lv_at hl 0 rfl) ?_
  refine va_get (D := gD G) (cl := vwCl) (tys := gT G) (ci := 2) (v := .ref (a 5)) (C := RX0) (T := TX0) (N := 12) hx hb hw inB_X0 hown hE.K hP 0 rfl rfl 4 (by decide) (hw _ bw98) (fun _ h9 => h9) rfl dX0_minute_5 ?_
  refine lv_iload_n hx hb dX0_minute_8 rfl (lv_at hl 1 rfl) ?_
  refine va_lald (tys := gT G) hx hb hE.K hP 5 1 rfl rfl h0 dX0_minute_9 ?_
  refine rcSi (as := [.long (xN S p0.toNatClampNeg)]) (rest := []) C (c_X0_minuteOf l G (xN S p0.toNatClampNeg)) F_X0_minuteOf rfl bw153 bw154 hE vpn hl.1 dX0_minute_10 ⟨Nat.le_of_ble_eq_true rfl, Nat.le_of_ble_eq_true rfl⟩ rfl (Nat.le_of_ble_eq_true rfl) ⟨Nat.zero_le _, Nat.zero_le _⟩ ?_
  exact re_i hx hb hr hk dX0_minute_13 (ei rfl)

set_option maxRecDepth 100000 in
set_option maxHeartbeats 4000000 in
theorem c_X0_second (l : Launch) (G : GT) (a : Nat → Nat) (S : SX) (p0 : Int32) (h0 : vp_in p0 6) : RO l G yX0_second cX0_second 2 (some .int) 2 [.ref (a 0), .int p0] (wX G a S) (some (.int (fX0_second S p0))) := by
  refine RO.ofW (own := RX0) rfl (by decide +kernel) (Nat.le_of_ble_eq_true rfl) ?_
  intro p e s m below meth c C hr hk hE hP ls hl
  have hx := C.1
  have hb := C.2.1
  have hown := C.2.2.2.1
  have hw := C.2.2.2.2
  have hl : lv_has ls 2 [(0, .ref (a 0)), (1, .int p0)] := hl
  refine lv_iload_n hx hb dX0_second_0 rfl (lv_at hl 1 rfl) ?_
  refine rcSv (as := [.int p0]) (rest := []) C (c_X0_checkMoment l G p0 h0) F_X0_checkMoment rfl bw387 bw388 hE vpn hl.1 dX0_second_1 ⟨Nat.le_of_ble_eq_true rfl, Nat.le_of_ble_eq_true rfl⟩ rfl (Nat.le_of_ble_eq_true rfl) ⟨Nat.zero_le _, Nat.zero_le _⟩ ?_
  refine lv_aload_n hx hb dX0_second_4 rfl (lv_at hl 0 rfl) ?_
  refine va_get (D := gD G) (cl := vwCl) (tys := gT G) (ci := 2) (v := .ref (a 5)) (C := RX0) (T := TX0) (N := 12) hx hb hw inB_X0 hown hE.K hP 0 rfl rfl 4 (by decide) (hw _ bw98) (fun _ h9 => h9) rfl dX0_second_5 ?_
  refine lv_iload_n hx hb dX0_second_8 rfl (lv_at hl 1 rfl) ?_
  refine va_lald (tys := gT G) hx hb hE.K hP 5 1 rfl rfl h0 dX0_second_9 ?_
  refine rcSi (as := [.long (xN S p0.toNatClampNeg)]) (rest := []) C (c_X0_secondOf l G (xN S p0.toNatClampNeg)) F_X0_secondOf rfl bw157 bw158 hE vpn hl.1 dX0_second_10 ⟨Nat.le_of_ble_eq_true rfl, Nat.le_of_ble_eq_true rfl⟩ rfl (Nat.le_of_ble_eq_true rfl) ⟨Nat.zero_le _, Nat.zero_le _⟩ ?_
  exact re_i hx hb hr hk dX0_second_13 (ei rfl)

set_option maxRecDepth 100000 in
set_option maxHeartbeats 4000000 in
theorem c_X0_nano (l : Launch) (G : GT) (a : Nat → Nat) (S : SX) (p0 : Int32) (h0 : vp_in p0 6) : RO l G yX0_nano cX0_nano 2 (some .int) 2 [.ref (a 0), .int p0] (wX G a S) (some (.int (fX0_nano S p0))) := by
  refine RO.ofW (own := RX0) rfl (by decide +kernel) (Nat.le_of_ble_eq_true rfl) ?_
  intro p e s m below meth c C hr hk hE hP ls hl
  have hx := C.1
  have hb := C.2.1
  have hown := C.2.2.2.1
  have hw := C.2.2.2.2
  have hl : lv_has ls 2 [(0, .ref (a 0)), (1, .int p0)] := hl
  refine lv_iload_n hx hb dX0_nano_0 rfl (lv_at hl 1 rfl) ?_
  refine rcSv (as := [.int p0]) (rest := []) C (c_X0_checkMoment l G p0 h0) F_X0_checkMoment rfl bw387 bw388 hE vpn hl.1 dX0_nano_1 ⟨Nat.le_of_ble_eq_true rfl, Nat.le_of_ble_eq_true rfl⟩ rfl (Nat.le_of_ble_eq_true rfl) ⟨Nat.zero_le _, Nat.zero_le _⟩ ?_
  refine lv_aload_n hx hb dX0_nano_4 rfl (lv_at hl 0 rfl) ?_
  refine va_get (D := gD G) (cl := vwCl) (tys := gT G) (ci := 2) (v := .ref (a 5)) (C := RX0) (T := TX0) (N := 12) hx hb hw inB_X0 hown hE.K hP 0 rfl rfl 4 (by decide) (hw _ bw98) (fun _ h9 => h9) rfl dX0_nano_5 ?_
  refine lv_iload_n hx hb dX0_nano_8 rfl (lv_at hl 1 rfl) ?_
  refine va_lald (tys := gT G) hx hb hE.K hP 5 1 rfl rfl h0 dX0_nano_9 ?_
  refine rcSi (as := [.long (xN S p0.toNatClampNeg)]) (rest := []) C (c_X0_nanoOfSecond l G (xN S p0.toNatClampNeg)) F_X0_nanoOfSecond rfl bw161 bw162 hE vpn hl.1 dX0_nano_10 ⟨Nat.le_of_ble_eq_true rfl, Nat.le_of_ble_eq_true rfl⟩ rfl (Nat.le_of_ble_eq_true rfl) ⟨Nat.zero_le _, Nat.zero_le _⟩ ?_
  exact re_i hx hb hr hk dX0_nano_13 (ei rfl)

set_option maxRecDepth 100000 in
set_option maxHeartbeats 4000000 in
theorem c_X0_day (l : Launch) (G : GT) (a : Nat → Nat) (S : SX) (p0 : Int32) (h0 : vp_in p0 6) : RO l G yX0_day cX0_day 2 (some .int) 2 [.ref (a 0), .int p0] (wX G a S) (some (.int (fX0_day S p0))) := by
  refine RO.ofW (own := RX0) rfl (by decide +kernel) (Nat.le_of_ble_eq_true rfl) ?_
  intro p e s m below meth c C hr hk hE hP ls hl
  have hx := C.1
  have hb := C.2.1
  have hown := C.2.2.2.1
  have hw := C.2.2.2.2
  have hl : lv_has ls 2 [(0, .ref (a 0)), (1, .int p0)] := hl
  refine lv_iload_n hx hb dX0_day_0 rfl (lv_at hl 1 rfl) ?_
  refine rcSv (as := [.int p0]) (rest := []) C (c_X0_checkMoment l G p0 h0) F_X0_checkMoment rfl bw387 bw388 hE vpn hl.1 dX0_day_1 ⟨Nat.le_of_ble_eq_true rfl, Nat.le_of_ble_eq_true rfl⟩ rfl (Nat.le_of_ble_eq_true rfl) ⟨Nat.zero_le _, Nat.zero_le _⟩ ?_
  refine lv_aload_n hx hb dX0_day_4 rfl (lv_at hl 0 rfl) ?_
  refine va_get (D := gD G) (cl := vwCl) (tys := gT G) (ci := 2) (v := .ref (a 4)) (C := RX0) (T := TX0) (N := 12) hx hb hw inB_X0 hown hE.K hP 0 rfl rfl 3 (by decide) (hw _ bw97) (fun _ h9 => h9) rfl dX0_day_5 ?_
  refine lv_iload_n hx hb dX0_day_8 rfl (lv_at hl 1 rfl) ?_
  refine va_lald (tys := gT G) hx hb hE.K hP 4 1 rfl rfl h0 dX0_day_9 ?_
  refine lv_l2i (v := ((xD S p0.toNatClampNeg).toInt32)) hx hb dX0_day_10 (by first | rfl | decide) ?_
  exact re_i hx hb hr hk dX0_day_11 (ei rfl)

set_option maxRecDepth 100000 in
set_option maxHeartbeats 4000000 in
theorem c_X0_secondOfDay (l : Launch) (G : GT) (a : Nat → Nat) (S : SX) (p0 : Int32) (h0 : vp_in p0 6) : RO l G yX0_secondOfDay cX0_secondOfDay 2 (some .int) 2 [.ref (a 0), .int p0] (wX G a S) (some (.int (fX0_secondOfDay S p0))) := by
  refine RO.ofW (own := RX0) rfl (by decide +kernel) (Nat.le_of_ble_eq_true rfl) ?_
  intro p e s m below meth c C hr hk hE hP ls hl
  have hx := C.1
  have hb := C.2.1
  have hown := C.2.2.2.1
  have hw := C.2.2.2.2
  have hl : lv_has ls 2 [(0, .ref (a 0)), (1, .int p0)] := hl
  refine lv_iload_n hx hb dX0_secondOfDay_0 rfl (lv_at hl 1 rfl) ?_
  refine rcSv (as := [.int p0]) (rest := []) C (c_X0_checkMoment l G p0 h0) F_X0_checkMoment rfl bw387 bw388 hE vpn hl.1 dX0_secondOfDay_1 ⟨Nat.le_of_ble_eq_true rfl, Nat.le_of_ble_eq_true rfl⟩ rfl (Nat.le_of_ble_eq_true rfl) ⟨Nat.zero_le _, Nat.zero_le _⟩ ?_
  refine lv_aload_n hx hb dX0_secondOfDay_4 rfl (lv_at hl 0 rfl) ?_
  refine va_get (D := gD G) (cl := vwCl) (tys := gT G) (ci := 2) (v := .ref (a 5)) (C := RX0) (T := TX0) (N := 12) hx hb hw inB_X0 hown hE.K hP 0 rfl rfl 4 (by decide) (hw _ bw98) (fun _ h9 => h9) rfl dX0_secondOfDay_5 ?_
  refine lv_iload_n hx hb dX0_secondOfDay_8 rfl (lv_at hl 1 rfl) ?_
  refine va_lald (tys := gT G) hx hb hE.K hP 5 1 rfl rfl h0 dX0_secondOfDay_9 ?_
  refine lv_ldc2 (v := (1000000000 : Int64)) hx hb hown (hw _ bw160) dX0_secondOfDay_10 ?_
  refine lv_ldiv hx hb dX0_secondOfDay_13 (by decide) ?_
  refine lv_l2i (v := (((xN S p0.toNatClampNeg) / (1000000000 : Int64)).toInt32)) hx hb dX0_secondOfDay_14 (by first | rfl | decide) ?_
  exact re_i hx hb hr hk dX0_secondOfDay_15 (ei rfl)

set_option maxRecDepth 100000 in
set_option maxHeartbeats 4000000 in
theorem c_X0_lengthOfMonth (l : Launch) (G : GT) (a : Nat → Nat) (S : SX) (p0 : Int32) (h0 : vp_in p0 6) : RO l G yX0_lengthOfMonth cX0_lengthOfMonth 2 (some .int) 3 [.ref (a 0), .int p0] (wX G a S) (some (.int (fX0_lengthOfMonth S p0))) := by
  refine RO.ofW (own := RX0) rfl (by decide +kernel) (Nat.le_of_ble_eq_true rfl) ?_
  intro p e s m below meth c C hr hk hE hP ls hl
  have hx := C.1
  have hb := C.2.1
  have hown := C.2.2.2.1
  have hw := C.2.2.2.2
  have hl : lv_has ls 2 [(0, .ref (a 0)), (1, .int p0)] := hl
  refine lv_iload_n hx hb dX0_lengthOfMonth_0 rfl (lv_at hl 1 rfl) ?_
  refine rcSv (as := [.int p0]) (rest := []) C (c_X0_checkMoment l G p0 h0) F_X0_checkMoment rfl bw387 bw388 hE vpn hl.1 dX0_lengthOfMonth_1 ⟨Nat.le_of_ble_eq_true rfl, Nat.le_of_ble_eq_true rfl⟩ rfl (Nat.le_of_ble_eq_true rfl) ⟨Nat.zero_le _, Nat.zero_le _⟩ ?_
  refine lv_aload_n hx hb dX0_lengthOfMonth_4 rfl (lv_at hl 0 rfl) ?_
  refine va_get (D := gD G) (cl := vwCl) (tys := gT G) (ci := 2) (v := .ref (a 1)) (C := RX0) (T := TX0) (N := 12) hx hb hw inB_X0 hown hE.K hP 0 rfl rfl 0 (by decide) (hw _ bw94) (fun _ h9 => h9) rfl dX0_lengthOfMonth_5 ?_
  refine lv_iload_n hx hb dX0_lengthOfMonth_8 rfl (lv_at hl 1 rfl) ?_
  refine va_iald (tys := gT G) hx hb hE.K hP 1 0 rfl rfl h0 dX0_lengthOfMonth_9 ?_
  refine lv_aload_n hx hb dX0_lengthOfMonth_10 rfl (lv_at hl 0 rfl) ?_
  refine va_get (D := gD G) (cl := vwCl) (tys := gT G) (ci := 2) (v := .ref (a 2)) (C := RX0) (T := TX0) (N := 12) hx hb hw inB_X0 hown hE.K hP 0 rfl rfl 1 (by decide) (hw _ bw95) (fun _ h9 => h9) rfl dX0_lengthOfMonth_11 ?_
  refine lv_iload_n hx hb dX0_lengthOfMonth_14 rfl (lv_at hl 1 rfl) ?_
  refine va_iald (tys := gT G) hx hb hE.K hP 2 0 rfl rfl h0 dX0_lengthOfMonth_15 ?_
  refine rcSi (as := [.int (xy S p0.toNatClampNeg), .int (xm S p0.toNatClampNeg)]) (rest := []) C (c_X0_monthLength l G (xy S p0.toNatClampNeg) (xm S p0.toNatClampNeg)) F_X0_monthLength rfl bw210 bw211 hE vpn hl.1 dX0_lengthOfMonth_16 ⟨Nat.le_of_ble_eq_true rfl, Nat.le_of_ble_eq_true rfl⟩ rfl (Nat.le_of_ble_eq_true rfl) ⟨Nat.zero_le _, Nat.zero_le _⟩ ?_
  exact re_i hx hb hr hk dX0_lengthOfMonth_19 (ei rfl)

set_option maxRecDepth 100000 in
set_option maxHeartbeats 4000000 in
theorem c_X0_isLeap (l : Launch) (G : GT) (a : Nat → Nat) (S : SX) (p0 : Int32) (h0 : vp_in p0 6) : RO l G yX0_isLeap cX0_isLeap 2 (some .boolean) 2 [.ref (a 0), .int p0] (wX G a S) (some (.int (fX0_isLeap S p0))) := by
  refine RO.ofW (own := RX0) rfl (by decide +kernel) (Nat.le_of_ble_eq_true rfl) ?_
  intro p e s m below meth c C hr hk hE hP ls hl
  have hx := C.1
  have hb := C.2.1
  have hown := C.2.2.2.1
  have hw := C.2.2.2.2
  have hl : lv_has ls 2 [(0, .ref (a 0)), (1, .int p0)] := hl
  refine lv_iload_n hx hb dX0_isLeap_0 rfl (lv_at hl 1 rfl) ?_
  refine rcSv (as := [.int p0]) (rest := []) C (c_X0_checkMoment l G p0 h0) F_X0_checkMoment rfl bw387 bw388 hE vpn hl.1 dX0_isLeap_1 ⟨Nat.le_of_ble_eq_true rfl, Nat.le_of_ble_eq_true rfl⟩ rfl (Nat.le_of_ble_eq_true rfl) ⟨Nat.zero_le _, Nat.zero_le _⟩ ?_
  refine lv_aload_n hx hb dX0_isLeap_4 rfl (lv_at hl 0 rfl) ?_
  refine va_get (D := gD G) (cl := vwCl) (tys := gT G) (ci := 2) (v := .ref (a 1)) (C := RX0) (T := TX0) (N := 12) hx hb hw inB_X0 hown hE.K hP 0 rfl rfl 0 (by decide) (hw _ bw94) (fun _ h9 => h9) rfl dX0_isLeap_5 ?_
  refine lv_iload_n hx hb dX0_isLeap_8 rfl (lv_at hl 1 rfl) ?_
  refine va_iald (tys := gT G) hx hb hE.K hP 1 0 rfl rfl h0 dX0_isLeap_9 ?_
  refine rcSi (as := [.int (xy S p0.toNatClampNeg)]) (rest := []) C (c_X0_isLeapYear l G (xy S p0.toNatClampNeg)) F_X0_isLeapYear rfl bw175 bw176 hE vpn hl.1 dX0_isLeap_10 ⟨Nat.le_of_ble_eq_true rfl, Nat.le_of_ble_eq_true rfl⟩ rfl (Nat.le_of_ble_eq_true rfl) ⟨Nat.zero_le _, Nat.zero_le _⟩ ?_
  exact re_z (ty := .boolean) hx hb hr hk (bX0_isLeapYear (xy S p0.toNatClampNeg)) dX0_isLeap_13 (ei rfl)

set_option maxRecDepth 100000 in
set_option maxHeartbeats 4000000 in
theorem c_X0_compare (l : Launch) (G : GT) (a : Nat → Nat) (S : SX) (p0 : Int32) (p1 : Int32) (h0 : vp_in p0 6) (h1 : vp_in p1 6) : RO l G yX0_compare cX0_compare 3 (some .int) 2 [.ref (a 0), .int p0, .int p1] (wX G a S) (some (.int (fX0_compare S p0 p1))) := by
  refine RO.ofW (own := RX0) rfl (by decide +kernel) (Nat.le_of_ble_eq_true rfl) ?_
  intro p e s m below meth c C hr hk hE hP ls hl
  have hx := C.1
  have hb := C.2.1
  have hown := C.2.2.2.1
  have hw := C.2.2.2.2
  have hl : lv_has ls 3 [(0, .ref (a 0)), (1, .int p0), (2, .int p1)] := hl
  refine lv_iload_n hx hb dX0_compare_0 rfl (lv_at hl 1 rfl) ?_
  refine rcSv (as := [.int p0]) (rest := []) C (c_X0_checkMoment l G p0 h0) F_X0_checkMoment rfl bw387 bw388 hE vpn hl.1 dX0_compare_1 ⟨Nat.le_of_ble_eq_true rfl, Nat.le_of_ble_eq_true rfl⟩ rfl (Nat.le_of_ble_eq_true rfl) ⟨Nat.zero_le _, Nat.zero_le _⟩ ?_
  refine lv_iload_n hx hb dX0_compare_4 rfl (lv_at hl 2 rfl) ?_
  refine rcSv (as := [.int p1]) (rest := []) C (c_X0_checkMoment l G p1 h1) F_X0_checkMoment rfl bw387 bw388 hE vpn hl.1 dX0_compare_5 ⟨Nat.le_of_ble_eq_true rfl, Nat.le_of_ble_eq_true rfl⟩ rfl (Nat.le_of_ble_eq_true rfl) ⟨Nat.zero_le _, Nat.zero_le _⟩ ?_
  refine lv_aload_n hx hb dX0_compare_8 rfl (lv_at hl 0 rfl) ?_
  refine lv_iload_n hx hb dX0_compare_9 rfl (lv_at hl 1 rfl) ?_
  refine lv_iload_n hx hb dX0_compare_10 rfl (lv_at hl 2 rfl) ?_
  refine rcVi (as := [.int p0, .int p1]) (rest := []) (cl := RX0) C (c_X0_order l G a S p0 p1 h0 h1) F_X0_order rfl bw236 bw238 bw9 hE hP (rv2 hE.K hP (q0 := 0) rfl) hl.1 dX0_compare_11 ⟨Nat.le_of_ble_eq_true rfl, Nat.le_of_ble_eq_true rfl⟩ rfl (Nat.le_of_ble_eq_true rfl) ⟨Nat.zero_le _, Nat.zero_le _⟩ ?_
  exact re_i hx hb hr hk dX0_compare_14 (ei rfl)

set_option maxRecDepth 100000 in
set_option maxHeartbeats 4000000 in
theorem c_X0_isSame (l : Launch) (G : GT) (a : Nat → Nat) (S : SX) (p0 : Int32) (p1 : Int32) (h0 : vp_in p0 6) (h1 : vp_in p1 6) : RO l G yX0_isSame cX0_isSame 3 (some .boolean) 2 [.ref (a 0), .int p0, .int p1] (wX G a S) (some (.int (fX0_isSame S p0 p1))) := by
  refine RO.ofW (own := RX0) rfl (by decide +kernel) (Nat.le_of_ble_eq_true rfl) ?_
  intro p e s m below meth c C hr hk hE hP ls hl
  have hx := C.1
  have hb := C.2.1
  have hown := C.2.2.2.1
  have hw := C.2.2.2.2
  have hl : lv_has ls 3 [(0, .ref (a 0)), (1, .int p0), (2, .int p1)] := hl
  refine lv_iload_n hx hb dX0_isSame_0 rfl (lv_at hl 1 rfl) ?_
  refine rcSv (as := [.int p0]) (rest := []) C (c_X0_checkMoment l G p0 h0) F_X0_checkMoment rfl bw387 bw388 hE vpn hl.1 dX0_isSame_1 ⟨Nat.le_of_ble_eq_true rfl, Nat.le_of_ble_eq_true rfl⟩ rfl (Nat.le_of_ble_eq_true rfl) ⟨Nat.zero_le _, Nat.zero_le _⟩ ?_
  refine lv_iload_n hx hb dX0_isSame_4 rfl (lv_at hl 2 rfl) ?_
  refine rcSv (as := [.int p1]) (rest := []) C (c_X0_checkMoment l G p1 h1) F_X0_checkMoment rfl bw387 bw388 hE vpn hl.1 dX0_isSame_5 ⟨Nat.le_of_ble_eq_true rfl, Nat.le_of_ble_eq_true rfl⟩ rfl (Nat.le_of_ble_eq_true rfl) ⟨Nat.zero_le _, Nat.zero_le _⟩ ?_
  refine lv_aload_n hx hb dX0_isSame_8 rfl (lv_at hl 0 rfl) ?_
  refine lv_iload_n hx hb dX0_isSame_9 rfl (lv_at hl 1 rfl) ?_
  refine lv_iload_n hx hb dX0_isSame_10 rfl (lv_at hl 2 rfl) ?_
  refine rcVi (as := [.int p0, .int p1]) (rest := []) (cl := RX0) C (c_X0_isSameLine l G a S p0 p1 h0 h1) F_X0_isSameLine rfl bw240 bw242 bw10 hE hP (rv2 hE.K hP (q0 := 0) rfl) hl.1 dX0_isSame_11 ⟨Nat.le_of_ble_eq_true rfl, Nat.le_of_ble_eq_true rfl⟩ rfl (Nat.le_of_ble_eq_true rfl) ⟨Nat.zero_le _, Nat.zero_le _⟩ ?_
  exact re_z (ty := .boolean) hx hb hr hk (bX0_isSameLine S p0 p1) dX0_isSame_14 (ei rfl)

set_option maxRecDepth 100000 in
set_option maxHeartbeats 4000000 in
theorem c_X0_isSameAs (l : Launch) (G : GT) (a : Nat → Nat) (S : SX) (p0 : Int32) (p1 : Int32) (h0 : vp_in p0 6) (r1 : ¬ p1 < (0 : Int32)) (q1 : p1 ≤ (4 : Int32)) : RO l G yX0_isSameAs cX0_isSameAs 3 (some .boolean) 5 [.ref (a 0), .int p0, .int p1] (wX G a S) (some (.int (fX0_isSameAs S p0 p1))) := by
  refine RO.ofW (own := RX0) rfl (by decide +kernel) (Nat.le_of_ble_eq_true rfl) ?_
  intro p e s m below meth c C hr hk hE hP ls hl
  have hx := C.1
  have hb := C.2.1
  have hown := C.2.2.2.1
  have hw := C.2.2.2.2
  have hl : lv_has ls 3 [(0, .ref (a 0)), (1, .int p0), (2, .int p1)] := hl
  refine lv_iload_n hx hb dX0_isSameAs_0 rfl (lv_at hl 1 rfl) ?_
  refine rcSv (as := [.int p0]) (rest := []) C (c_X0_checkMoment l G p0 h0) F_X0_checkMoment rfl bw387 bw388 hE vpn hl.1 dX0_isSameAs_1 ⟨Nat.le_of_ble_eq_true rfl, Nat.le_of_ble_eq_true rfl⟩ rfl (Nat.le_of_ble_eq_true rfl) ⟨Nat.zero_le _, Nat.zero_le _⟩ ?_
  refine lv_iload_n hx hb dX0_isSameAs_4 rfl (lv_at hl 2 rfl) ?_
  refine lv_iconst (v := (0 : Int32)) hx hb dX0_isSameAs_5 (by decide) ?_
  refine lv_iconst (v := (4 : Int32)) hx hb dX0_isSameAs_6 (by decide) ?_
  refine rcSv (as := [.int p1, .int (0 : Int32), .int (4 : Int32)]) (rest := []) C (c_X0_checkRange l G p1 (0 : Int32) (4 : Int32) r1 q1) F_X0_checkRange rfl bw308 bw309 hE vpn hl.1 dX0_isSameAs_7 ⟨Nat.le_of_ble_eq_true rfl, Nat.le_of_ble_eq_true rfl⟩ rfl (Nat.le_of_ble_eq_true rfl) ⟨Nat.zero_le _, Nat.zero_le _⟩ ?_
  refine lv_iload_n hx hb dX0_isSameAs_10 rfl (lv_at hl 2 rfl) ?_
  by_cases c_1 : p1 = (3 : Int32)
  · refine lv_lookup (off := 25) (tgt := 36) hx hb dX0_isSameAs_11 (by decide) (by rw [c_1]; decide) (by decide) ?_
    refine lv_aload_n hx hb dX0_isSameAs_36 rfl (lv_at hl 0 rfl) ?_
    refine lv_iload_n hx hb dX0_isSameAs_37 rfl (lv_at hl 1 rfl) ?_
    refine rcVi (as := [.int p0]) (rest := []) (cl := RX0) C (c_X0_isItsDateAndTime l G a S p0 h0) F_X0_isItsDateAndTime rfl bw178 bw180 bw2 hE hP (rv2 hE.K hP (q0 := 0) rfl) hl.1 dX0_isSameAs_38 ⟨Nat.le_of_ble_eq_true rfl, Nat.le_of_ble_eq_true rfl⟩ rfl (Nat.le_of_ble_eq_true rfl) ⟨Nat.zero_le _, Nat.zero_le _⟩ ?_
    exact re_z (ty := .boolean) hx hb hr hk (bX0_isItsDateAndTime S p0) dX0_isSameAs_41 (ei (if_pos c_1))
  by_cases c_2 : p1 = (4 : Int32)
  · refine lv_lookup (off := 31) (tgt := 42) hx hb dX0_isSameAs_11 (by decide) (by rw [c_2]; decide) (by decide) ?_
    refine lv_aload_n hx hb dX0_isSameAs_42 rfl (lv_at hl 0 rfl) ?_
    refine lv_iload_n hx hb dX0_isSameAs_43 rfl (lv_at hl 1 rfl) ?_
    refine rcVi (as := [.int p0]) (rest := []) (cl := RX0) C (c_X0_isItsParts l G a S p0 h0) F_X0_isItsParts rfl bw145 bw147 bw1 hE hP (rv2 hE.K hP (q0 := 0) rfl) hl.1 dX0_isSameAs_44 ⟨Nat.le_of_ble_eq_true rfl, Nat.le_of_ble_eq_true rfl⟩ rfl (Nat.le_of_ble_eq_true rfl) ⟨Nat.zero_le _, Nat.zero_le _⟩ ?_
    exact re_z (ty := .boolean) hx hb hr hk (bX0_isItsParts S p0) dX0_isSameAs_47 (ei (Eq.trans (if_neg c_1) (if_pos c_2)))
  refine lv_lookup (off := 37) (tgt := 48) hx hb dX0_isSameAs_11 (by decide) ((lv_osw c_1 (by decide)).trans ((lv_osw c_2 (by decide)).trans (rfl))) (by decide) ?_
  refine lv_iconst (v := (0 : Int32)) hx hb dX0_isSameAs_48 (by decide) ?_
  exact re_z (ty := .boolean) hx hb hr hk (by decide) dX0_isSameAs_49 (ei (Eq.trans (if_neg c_1) (if_neg c_2)))

set_option maxRecDepth 100000 in
set_option maxHeartbeats 4000000 in
theorem c_X0_house (l : Launch) (G : GT) (a : Nat → Nat) (S : SX) (p0 : Int32) (r0 : ¬ p0 < (0 : Int32)) (q0 : p0 ≤ (5 : Int32)) : RO l G yX0_house cX0_house 2 (some .int) 5 [.ref (a 0), .int p0] (wX G a S) (some (.int (fX0_house S p0))) := by
  refine RO.ofW (own := RX0) rfl (by decide +kernel) (Nat.le_of_ble_eq_true rfl) ?_
  intro p e s m below meth c C hr hk hE hP ls hl
  have hx := C.1
  have hb := C.2.1
  have hown := C.2.2.2.1
  have hw := C.2.2.2.2
  have hl : lv_has ls 2 [(0, .ref (a 0)), (1, .int p0)] := hl
  refine lv_iload_n hx hb dX0_house_0 rfl (lv_at hl 1 rfl) ?_
  refine lv_iconst (v := (0 : Int32)) hx hb dX0_house_1 (by decide) ?_
  refine lv_iconst (v := (5 : Int32)) hx hb dX0_house_2 (by decide) ?_
  refine rcSv (as := [.int p0, .int (0 : Int32), .int (5 : Int32)]) (rest := []) C (c_X0_checkRange l G p0 (0 : Int32) (5 : Int32) r0 q0) F_X0_checkRange rfl bw308 bw309 hE vpn hl.1 dX0_house_3 ⟨Nat.le_of_ble_eq_true rfl, Nat.le_of_ble_eq_true rfl⟩ rfl (Nat.le_of_ble_eq_true rfl) ⟨Nat.zero_le _, Nat.zero_le _⟩ ?_
  refine lv_aload_n hx hb dX0_house_6 rfl (lv_at hl 0 rfl) ?_
  refine lv_iload_n hx hb dX0_house_7 rfl (lv_at hl 1 rfl) ?_
  refine rcVi (as := [.int p0]) (rest := []) (cl := RX0) C (c_X0_houseNumber l G a S p0) F_X0_houseNumber rfl bw270 bw272 bw13 hE hP (rv2 hE.K hP (q0 := 0) rfl) hl.1 dX0_house_8 ⟨Nat.le_of_ble_eq_true rfl, Nat.le_of_ble_eq_true rfl⟩ rfl (Nat.le_of_ble_eq_true rfl) ⟨Nat.zero_le _, Nat.zero_le _⟩ ?_
  exact re_i hx hb hr hk dX0_house_11 (ei rfl)

