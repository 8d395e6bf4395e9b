set_option maxRecDepth 100000 in
set_option maxHeartbeats 4000000 in
theorem c_X0_isBackFromNano (l : Launch) (G : GT) (a : Nat → Nat) (S : SX) (p0 : Int32) (h0 : vp_in p0 6) : RO l G yX0_isBackFromNano cX0_isBackFromNano 6 (some .boolean) 4 [.ref (a 0), .int p0] (wX G a S) (some (.int (fX0_isBackFromNano S p0))) := by
  refine RO.ofW (own := RX0) rfl (by decide +kernel) (Nat.le_of_ble_eq_true rfl) ?_
  intro p e s m below meth c C hr hk hE hP ls hl
  have hx := C.1
  have hb := C.2.1
  have hown := C.2.2.2.1
  have hw := C.2.2.2.2
  have hl : lv_has ls 6 [(0, .ref (a 0)), (1, .int p0)] := hl
  refine lv_aload_n hx hb dX0_isBackFromNano_0 rfl (lv_at hl 0 rfl) ?_
  refine va_get (D := gD G) (cl := vwCl) (tys := gT G) (ci := 2) (v := .ref (a 5)) (C := RX0) (T := TX0) (N := 12) hx hb hw inB_X0 hown hE.K hP 0 rfl rfl 4 (by decide) (hw _ bw98) (fun _ h9 => h9) rfl dX0_isBackFromNano_1 ?_
  refine lv_iload_n hx hb dX0_isBackFromNano_4 rfl (lv_at hl 1 rfl) ?_
  refine va_lald (tys := gT G) hx hb hE.K hP 5 1 rfl rfl h0 dX0_isBackFromNano_5 ?_
  refine lv_lconst (v := (1 : Int64)) hx hb dX0_isBackFromNano_6 (by decide) ?_
  refine lv_ladd hx hb dX0_isBackFromNano_7 ?_
  refine lv_lstore_n (lv' := [(2, .long ((xN S p0.toNatClampNeg) + (1 : Int64))), (0, .ref (a 0)), (1, .int p0)]) hx hb dX0_isBackFromNano_8 rfl hl (Nat.le_of_ble_eq_true rfl) rfl (fun ls hl => ?_)
  refine lv_aload_n hx hb dX0_isBackFromNano_9 rfl (lv_at hl 1 rfl) ?_
  refine va_get (D := gD G) (cl := vwCl) (tys := gT G) (ci := 2) (v := .ref (a 4)) (C := RX0) (T := TX0) (N := 12) hx hb hw inB_X0 hown hE.K hP 0 rfl rfl 3 (by decide) (hw _ bw97) (fun _ h9 => h9) rfl dX0_isBackFromNano_10 ?_
  refine lv_iload_n hx hb dX0_isBackFromNano_13 rfl (lv_at hl 2 rfl) ?_
  refine va_lald (tys := gT G) hx hb hE.K hP 4 1 rfl rfl h0 dX0_isBackFromNano_14 ?_
  refine lv_lload_n hx hb dX0_isBackFromNano_15 rfl (lv_at hl 0 rfl) ?_
  refine lv_ldc2 (v := (86400000000000 : Int64)) hx hb hown (hw _ bw190) dX0_isBackFromNano_16 ?_
  refine rcSl (as := [.long ((xN S p0.toNatClampNeg) + (1 : Int64)), .long (86400000000000 : Int64)]) (rest := [.long (xD S p0.toNatClampNeg)]) C (c_J9_floorDiv_f86c9 l G ((xN S p0.toNatClampNeg) + (1 : Int64)) (86400000000000 : Int64) (by decide)) F_J9_floorDiv_f86c9 rfl bw191 bw192 hE vpn hl.1 dX0_isBackFromNano_19 ⟨Nat.le_of_ble_eq_true rfl, Nat.le_of_ble_eq_true rfl⟩ rfl (Nat.le_of_ble_eq_true rfl) ⟨Nat.zero_le _, Nat.zero_le _⟩ ?_
  refine lv_ladd hx hb dX0_isBackFromNano_22 ?_
  refine lv_lstore (lv' := [(4, .long ((xD S p0.toNatClampNeg) + (fJ9_floorDiv_f86c9 ((xN S p0.toNatClampNeg) + (1 : Int64)) (86400000000000 : Int64)))), (2, .long ((xN S p0.toNatClampNeg) + (1 : Int64))), (0, .ref (a 0)), (1, .int p0)]) hx hb dX0_isBackFromNano_23 hl (Nat.le_of_ble_eq_true rfl) rfl (fun ls hl => ?_)
  refine lv_lload hx hb dX0_isBackFromNano_25 (lv_at hl 0 rfl) ?_
  refine lv_ldc2 (v := (2932896 : Int64)) hx hb hown (hw _ bw194) dX0_isBackFromNano_27 ?_
  refine W.lcmp hx hb dX0_isBackFromNano_30 ?_
  refine lv_if_le (tgt := 36) hx hb dX0_isBackFromNano_31 (by decide) (fun c_1 => ?_) (fun c_1 => ?_)
  · refine lv_aload_n hx hb dX0_isBackFromNano_36 rfl (lv_at hl 2 rfl) ?_
    refine lv_iload_n hx hb dX0_isBackFromNano_37 rfl (lv_at hl 3 rfl) ?_
    refine lv_lload hx hb dX0_isBackFromNano_38 (lv_at hl 0 rfl) ?_
    refine lv_lload_n hx hb dX0_isBackFromNano_40 rfl (lv_at hl 1 rfl) ?_
    refine lv_ldc2 (v := (86400000000000 : Int64)) hx hb hown (hw _ bw190) dX0_isBackFromNano_41 ?_
    refine rcSl (as := [.long ((xN S p0.toNatClampNeg) + (1 : Int64)), .long (86400000000000 : Int64)]) (rest := [.long ((xD S p0.toNatClampNeg) + (fJ9_floorDiv_f86c9 ((xN S p0.toNatClampNeg) + (1 : Int64)) (86400000000000 : Int64))), .int p0, .ref (a 0)]) C (c_J9_floorMod_f86c9 l G ((xN S p0.toNatClampNeg) + (1 : Int64)) (86400000000000 : Int64) (by decide)) F_J9_floorMod_f86c9 rfl bw195 bw196 hE vpn hl.1 dX0_isBackFromNano_44 ⟨Nat.le_of_ble_eq_true rfl, Nat.le_of_ble_eq_true rfl⟩ rfl (Nat.le_of_ble_eq_true rfl) ⟨Nat.zero_le _, Nat.zero_le _⟩ ?_
    refine lv_lconst (v := (1 : Int64)) hx hb dX0_isBackFromNano_47 (by decide) ?_
    refine rcVi (as := [.int p0, .long ((xD S p0.toNatClampNeg) + (fJ9_floorDiv_f86c9 ((xN S p0.toNatClampNeg) + (1 : Int64)) (86400000000000 : Int64))), .long (fJ9_floorMod_f86c9 ((xN S p0.toNatClampNeg) + (1 : Int64)) (86400000000000 : Int64)), .long (1 : Int64)]) (rest := []) (cl := RX0) C (c_X0_isLineLess l G a S p0 ((xD S p0.toNatClampNeg) + (fJ9_floorDiv_f86c9 ((xN S p0.toNatClampNeg) + (1 : Int64)) (86400000000000 : Int64))) (fJ9_floorMod_f86c9 ((xN S p0.toNatClampNeg) + (1 : Int64)) (86400000000000 : Int64)) (1 : Int64) h0) F_X0_isLineLess rfl bw198 bw200 bw5 hE hP (va_recv hE.K hP (ci := 2) (q0 := 0) rfl rfl) hl.1 dX0_isBackFromNano_48 ⟨Nat.le_of_ble_eq_true rfl, Nat.le_of_ble_eq_true rfl⟩ rfl (Nat.le_of_ble_eq_true rfl) ⟨Nat.zero_le _, Nat.zero_le _⟩ ?_
    exact re_z (ty := .boolean) hx hb hr hk (bX0_isLineLess S p0 ((xD S p0.toNatClampNeg) + (fJ9_floorDiv_f86c9 ((xN S p0.toNatClampNeg) + (1 : Int64)) (86400000000000 : Int64))) (fJ9_floorMod_f86c9 ((xN S p0.toNatClampNeg) + (1 : Int64)) (86400000000000 : Int64)) (1 : Int64)) dX0_isBackFromNano_51 (ei (if_pos c_1))
  · refine lv_iconst (v := (1 : Int32)) hx hb dX0_isBackFromNano_34 (by decide) ?_
    exact re_z (ty := .boolean) hx hb hr hk (by decide) dX0_isBackFromNano_35 (ei (if_neg c_1))

set_option maxRecDepth 100000 in
set_option maxHeartbeats 4000000 in
theorem c_X0_isBackFromDay (l : Launch) (G : GT) (a : Nat → Nat) (S : SX) (p0 : Int32) (h0 : vp_in p0 6) : RO l G yX0_isBackFromDay cX0_isBackFromDay 2 (some .boolean) 4 [.ref (a 0), .int p0] (wX G a S) (some (.int (fX0_isBackFromDay S p0))) := by
  refine RO.ofW (own := RX0) rfl (by decide +kernel) (Nat.le_of_ble_eq_true rfl) ?_
  intro p e s m below meth c C hr hk hE hP ls hl
  have hx := C.1
  have hb := C.2.1
  have hown := C.2.2.2.1
  have hw := C.2.2.2.2
  have hl : lv_has ls 2 [(0, .ref (a 0)), (1, .int p0)] := hl
  refine lv_aload_n hx hb dX0_isBackFromDay_0 rfl (lv_at hl 0 rfl) ?_
  refine va_get (D := gD G) (cl := vwCl) (tys := gT G) (ci := 2) (v := .ref (a 4)) (C := RX0) (T := TX0) (N := 12) hx hb hw inB_X0 hown hE.K hP 0 rfl rfl 3 (by decide) (hw _ bw97) (fun _ h9 => h9) rfl dX0_isBackFromDay_1 ?_
  refine lv_iload_n hx hb dX0_isBackFromDay_4 rfl (lv_at hl 1 rfl) ?_
  refine va_lald (tys := gT G) hx hb hE.K hP 4 1 rfl rfl h0 dX0_isBackFromDay_5 ?_
  refine lv_ldc2 (v := (2932896 : Int64)) hx hb hown (hw _ bw194) dX0_isBackFromDay_6 ?_
  refine W.lcmp hx hb dX0_isBackFromDay_9 ?_
  refine lv_if_lt (tgt := 15) hx hb dX0_isBackFromDay_10 (by decide) (fun c_1 => ?_) (fun c_1 => ?_)
  · refine lv_aload_n hx hb dX0_isBackFromDay_15 rfl (lv_at hl 0 rfl) ?_
    refine lv_iload_n hx hb dX0_isBackFromDay_16 rfl (lv_at hl 1 rfl) ?_
    refine lv_aload_n hx hb dX0_isBackFromDay_17 rfl (lv_at hl 0 rfl) ?_
    refine va_get (D := gD G) (cl := vwCl) (tys := gT G) (ci := 2) (v := .ref (a 4)) (C := RX0) (T := TX0) (N := 12) hx hb hw inB_X0 hown hE.K hP 0 rfl rfl 3 (by decide) (hw _ bw97) (fun _ h9 => h9) rfl dX0_isBackFromDay_18 ?_
    refine lv_iload_n hx hb dX0_isBackFromDay_21 rfl (lv_at hl 1 rfl) ?_
    refine va_lald (tys := gT G) hx hb hE.K hP 4 1 rfl rfl h0 dX0_isBackFromDay_22 ?_
    refine lv_lconst (v := (1 : Int64)) hx hb dX0_isBackFromDay_23 (by decide) ?_
    refine lv_ladd hx hb dX0_isBackFromDay_24 ?_
    refine lv_aload_n hx hb dX0_isBackFromDay_25 rfl (lv_at hl 0 rfl) ?_
    refine va_get (D := gD G) (cl := vwCl) (tys := gT G) (ci := 2) (v := .ref (a 5)) (C := RX0) (T := TX0) (N := 12) hx hb hw inB_X0 hown hE.K hP 0 rfl rfl 4 (by decide) (hw _ bw98) (fun _ h9 => h9) rfl dX0_isBackFromDay_26 ?_
    refine lv_iload_n hx hb dX0_isBackFromDay_29 rfl (lv_at hl 1 rfl) ?_
    refine va_lald (tys := gT G) hx hb hE.K hP 5 1 rfl rfl h0 dX0_isBackFromDay_30 ?_
    refine lv_ldc2 (v := (86400000000000 : Int64)) hx hb hown (hw _ bw190) dX0_isBackFromDay_31 ?_
    refine rcVi (as := [.int p0, .long ((xD S p0.toNatClampNeg) + (1 : Int64)), .long (xN S p0.toNatClampNeg), .long (86400000000000 : Int64)]) (rest := []) (cl := RX0) C (c_X0_isLineLess l G a S p0 ((xD S p0.toNatClampNeg) + (1 : Int64)) (xN S p0.toNatClampNeg) (86400000000000 : Int64) h0) F_X0_isLineLess rfl bw198 bw200 bw5 hE hP (va_recv hE.K hP (ci := 2) (q0 := 0) rfl rfl) hl.1 dX0_isBackFromDay_34 ⟨Nat.le_of_ble_eq_true rfl, Nat.le_of_ble_eq_true rfl⟩ rfl (Nat.le_of_ble_eq_true rfl) ⟨Nat.zero_le _, Nat.zero_le _⟩ ?_
    exact re_z (ty := .boolean) hx hb hr hk (bX0_isLineLess S p0 ((xD S p0.toNatClampNeg) + (1 : Int64)) (xN S p0.toNatClampNeg) (86400000000000 : Int64)) dX0_isBackFromDay_37 (ei (if_pos c_1))
  · refine lv_iconst (v := (1 : Int32)) hx hb dX0_isBackFromDay_13 (by decide) ?_
    exact re_z (ty := .boolean) hx hb hr hk (by decide) dX0_isBackFromDay_14 (ei (if_neg c_1))

set_option maxRecDepth 100000 in
set_option maxHeartbeats 4000000 in
theorem c_X0_isBackFromCycle (l : Launch) (G : GT) (a : Nat → Nat) (S : SX) (p0 : Int32) (h0 : vp_in p0 6) : RO l G yX0_isBackFromCycle cX0_isBackFromCycle 4 (some .boolean) 4 [.ref (a 0), .int p0] (wX G a S) (some (.int (fX0_isBackFromCycle S p0))) := by
  refine RO.ofW (own := RX0) rfl (by decide +kernel) (Nat.le_of_ble_eq_true rfl) ?_
  intro p e s m below meth c C hr hk hE hP ls hl
  have hx := C.1
  have hb := C.2.1
  have hown := C.2.2.2.1
  have hw := C.2.2.2.2
  have hl : lv_has ls 4 [(0, .ref (a 0)), (1, .int p0)] := hl
  refine lv_aload_n hx hb dX0_isBackFromCycle_0 rfl (lv_at hl 0 rfl) ?_
  refine va_get (D := gD G) (cl := vwCl) (tys := gT G) (ci := 2) (v := .ref (a 1)) (C := RX0) (T := TX0) (N := 12) hx hb hw inB_X0 hown hE.K hP 0 rfl rfl 0 (by decide) (hw _ bw94) (fun _ h9 => h9) rfl dX0_isBackFromCycle_1 ?_
  refine lv_iload_n hx hb dX0_isBackFromCycle_4 rfl (lv_at hl 1 rfl) ?_
  refine va_iald (tys := gT G) hx hb hE.K hP 1 0 rfl rfl h0 dX0_isBackFromCycle_5 ?_
  refine lv_sipush (v := (400 : Int32)) hx hb dX0_isBackFromCycle_6 (by decide) ?_
  refine lv_iadd hx hb dX0_isBackFromCycle_9 ?_
  refine lv_istore_n (lv' := [(2, .int ((xy S p0.toNatClampNeg) + (400 : Int32))), (0, .ref (a 0)), (1, .int p0)]) hx hb dX0_isBackFromCycle_10 rfl hl (Nat.le_of_ble_eq_true rfl) rfl (fun ls hl => ?_)
  refine lv_iload_n hx hb dX0_isBackFromCycle_11 rfl (lv_at hl 0 rfl) ?_
  refine lv_sipush (v := (9999 : Int32)) hx hb dX0_isBackFromCycle_12 (by decide) ?_
  refine lv_icmp_le (tgt := 20) hx hb dX0_isBackFromCycle_15 (by decide) (fun c_1 => ?_) (fun c_1 => ?_)
  · refine lv_aload_n hx hb dX0_isBackFromCycle_20 rfl (lv_at hl 1 rfl) ?_
    refine va_get (D := gD G) (cl := vwCl) (tys := gT G) (ci := 2) (v := .ref (a 3)) (C := RX0) (T := TX0) (N := 12) hx hb hw inB_X0 hown hE.K hP 0 rfl rfl 2 (by decide) (hw _ bw96) (fun _ h9 => h9) rfl dX0_isBackFromCycle_21 ?_
    refine lv_iload_n hx hb dX0_isBackFromCycle_24 rfl (lv_at hl 2 rfl) ?_
    refine va_iald (tys := gT G) hx hb hE.K hP 3 0 rfl rfl h0 dX0_isBackFromCycle_25 ?_
    refine lv_iload_n hx hb dX0_isBackFromCycle_26 rfl (lv_at hl 0 rfl) ?_
    refine lv_aload_n hx hb dX0_isBackFromCycle_27 rfl (lv_at hl 1 rfl) ?_
    refine va_get (D := gD G) (cl := vwCl) (tys := gT G) (ci := 2) (v := .ref (a 2)) (C := RX0) (T := TX0) (N := 12) hx hb hw inB_X0 hown hE.K hP 0 rfl rfl 1 (by decide) (hw _ bw95) (fun _ h9 => h9) rfl dX0_isBackFromCycle_28 ?_
    refine lv_iload_n hx hb dX0_isBackFromCycle_31 rfl (lv_at hl 2 rfl) ?_
    refine va_iald (tys := gT G) hx hb hE.K hP 2 0 rfl rfl h0 dX0_isBackFromCycle_32 ?_
    refine rcSi (as := [.int ((xy S p0.toNatClampNeg) + (400 : Int32)), .int (xm S p0.toNatClampNeg)]) (rest := [.int (xd S p0.toNatClampNeg)]) C (c_X0_monthLength l G ((xy S p0.toNatClampNeg) + (400 : Int32)) (xm S p0.toNatClampNeg)) F_X0_monthLength rfl bw210 bw211 hE vpn hl.1 dX0_isBackFromCycle_33 ⟨Nat.le_of_ble_eq_true rfl, Nat.le_of_ble_eq_true rfl⟩ rfl (Nat.le_of_ble_eq_true rfl) ⟨Nat.zero_le _, Nat.zero_le _⟩ ?_
    refine rcSi (as := [.int (xd S p0.toNatClampNeg), .int (fX0_monthLength ((xy S p0.toNatClampNeg) + (400 : Int32)) (xm S p0.toNatClampNeg))]) (rest := []) C (c_J9_min_7cf53 l G (xd S p0.toNatClampNeg) (fX0_monthLength ((xy S p0.toNatClampNeg) + (400 : Int32)) (xm S p0.toNatClampNeg))) F_J9_min_7cf53 rfl bw213 bw214 hE vpn hl.1 dX0_isBackFromCycle_36 ⟨Nat.le_of_ble_eq_true rfl, Nat.le_of_ble_eq_true rfl⟩ rfl (Nat.le_of_ble_eq_true rfl) ⟨Nat.zero_le _, Nat.zero_le _⟩ ?_
    refine lv_istore_n (lv' := [(3, .int (fJ9_min_7cf53 (xd S p0.toNatClampNeg) (fX0_monthLength ((xy S p0.toNatClampNeg) + (400 : Int32)) (xm S p0.toNatClampNeg)))), (2, .int ((xy S p0.toNatClampNeg) + (400 : Int32))), (0, .ref (a 0)), (1, .int p0)]) hx hb dX0_isBackFromCycle_39 rfl hl (Nat.le_of_ble_eq_true rfl) rfl (fun ls hl => ?_)
    refine lv_iload_n hx hb dX0_isBackFromCycle_40 rfl (lv_at hl 1 rfl) ?_
    refine lv_aload_n hx hb dX0_isBackFromCycle_41 rfl (lv_at hl 2 rfl) ?_
    refine va_get (D := gD G) (cl := vwCl) (tys := gT G) (ci := 2) (v := .ref (a 2)) (C := RX0) (T := TX0) (N := 12) hx hb hw inB_X0 hown hE.K hP 0 rfl rfl 1 (by decide) (hw _ bw95) (fun _ h9 => h9) rfl dX0_isBackFromCycle_42 ?_
    refine lv_iload_n hx hb dX0_isBackFromCycle_45 rfl (lv_at hl 3 rfl) ?_
    refine va_iald (tys := gT G) hx hb hE.K hP 2 0 rfl rfl h0 dX0_isBackFromCycle_46 ?_
    refine lv_iload_n hx hb dX0_isBackFromCycle_47 rfl (lv_at hl 0 rfl) ?_
    refine rcSl (as := [.int ((xy S p0.toNatClampNeg) + (400 : Int32)), .int (xm S p0.toNatClampNeg), .int (fJ9_min_7cf53 (xd S p0.toNatClampNeg) (fX0_monthLength ((xy S p0.toNatClampNeg) + (400 : Int32)) (xm S p0.toNatClampNeg)))]) (rest := []) C (c_X0_dayOf l G ((xy S p0.toNatClampNeg) + (400 : Int32)) (xm S p0.toNatClampNeg) (fJ9_min_7cf53 (xd S p0.toNatClampNeg) (fX0_monthLength ((xy S p0.toNatClampNeg) + (400 : Int32)) (xm S p0.toNatClampNeg)))) F_X0_dayOf rfl bw167 bw168 hE vpn hl.1 dX0_isBackFromCycle_48 ⟨Nat.le_of_ble_eq_true rfl, Nat.le_of_ble_eq_true rfl⟩ rfl (Nat.le_of_ble_eq_true rfl) ⟨Nat.zero_le _, Nat.zero_le _⟩ ?_
    refine lv_ldc2 (v := (146097 : Int64)) hx hb hown (hw _ bw216) dX0_isBackFromCycle_51 ?_
    refine lv_lsub hx hb dX0_isBackFromCycle_54 ?_
    refine lv_aload_n hx hb dX0_isBackFromCycle_55 rfl (lv_at hl 2 rfl) ?_
    refine va_get (D := gD G) (cl := vwCl) (tys := gT G) (ci := 2) (v := .ref (a 4)) (C := RX0) (T := TX0) (N := 12) hx hb hw inB_X0 hown hE.K hP 0 rfl rfl 3 (by decide) (hw _ bw97) (fun _ h9 => h9) rfl dX0_isBackFromCycle_56 ?_
    refine lv_iload_n hx hb dX0_isBackFromCycle_59 rfl (lv_at hl 3 rfl) ?_
    refine va_lald (tys := gT G) hx hb hE.K hP 4 1 rfl rfl h0 dX0_isBackFromCycle_60 ?_
    refine W.lcmp hx hb dX0_isBackFromCycle_61 ?_
    refine lv_if_ne (tgt := 69) hx hb dX0_isBackFromCycle_62 (by decide) (fun c_2 => ?_) (fun c_2 => ?_)
    · refine lv_iconst (v := (0 : Int32)) hx hb dX0_isBackFromCycle_69 (by decide) ?_
      exact re_z (ty := .boolean) hx hb hr hk (by decide) dX0_isBackFromCycle_70 (ei (Eq.trans (if_pos c_1) (if_neg c_2)))
    · refine lv_iconst (v := (1 : Int32)) hx hb dX0_isBackFromCycle_65 (by decide) ?_
      refine lv_goto (tgt := 70) hx hb dX0_isBackFromCycle_66 (by decide) ?_
      exact re_z (ty := .boolean) hx hb hr hk (by decide) dX0_isBackFromCycle_70 (ei (Eq.trans (if_pos c_1) (if_pos c_2)))
  · refine lv_iconst (v := (1 : Int32)) hx hb dX0_isBackFromCycle_18 (by decide) ?_
    exact re_z (ty := .boolean) hx hb hr hk (by decide) dX0_isBackFromCycle_19 (ei (if_neg c_1))

