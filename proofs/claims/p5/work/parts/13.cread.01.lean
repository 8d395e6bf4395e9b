set_option maxRecDepth 100000 in
set_option maxHeartbeats 4000000 in
theorem c_X0_order (l : Launch) (G : GT) (a : Nat → Nat) (S : SX) (p0 : Int32) (p1 : Int32) (h0 : vp_in p0 6) (h1 : vp_in p1 6) : RO l G yX0_order cX0_order 3 (some .int) 1 [.ref (a 0), .int p0, .int p1] (wX G a S) (some (.int (fX0_order S p0 p1))) := by
  refine RO.ofW (own := RX0) rfl (by decide +kernel) (Nat.le_of_ble_eq_true rfl) ?_
  intro p e s m below meth c C hr hk hE hP ls hl
  have hx := C.1
  have hb := C.2.1
  have hown := C.2.2.2.1
  have hw := C.2.2.2.2
  have hl : lv_has ls 3 [(0, .ref (a 0)), (1, .int p0), (2, .int p1)] := hl
  refine lv_aload_n hx hb dX0_order_0 rfl (lv_at hl 0 rfl) ?_
  refine va_get (D := gD G) (cl := vwCl) (tys := gT G) (ci := 2) (v := .ref (a 4)) (C := RX0) (T := TX0) (N := 12) hx hb hw inB_X0 hown hE.K hP 0 rfl rfl 3 (by decide) (hw _ bw97) (fun _ h9 => h9) rfl dX0_order_1 ?_
  refine lv_iload_n hx hb dX0_order_4 rfl (lv_at hl 1 rfl) ?_
  refine va_lald (tys := gT G) hx hb hE.K hP 4 1 rfl rfl h0 dX0_order_5 ?_
  refine lv_aload_n hx hb dX0_order_6 rfl (lv_at hl 0 rfl) ?_
  refine va_get (D := gD G) (cl := vwCl) (tys := gT G) (ci := 2) (v := .ref (a 4)) (C := RX0) (T := TX0) (N := 12) hx hb hw inB_X0 hown hE.K hP 0 rfl rfl 3 (by decide) (hw _ bw97) (fun _ h9 => h9) rfl dX0_order_7 ?_
  refine lv_iload_n hx hb dX0_order_10 rfl (lv_at hl 2 rfl) ?_
  refine va_lald (tys := gT G) hx hb hE.K hP 4 1 rfl rfl h1 dX0_order_11 ?_
  refine W.lcmp hx hb dX0_order_12 ?_
  refine lv_if_eq (tgt := 38) hx hb dX0_order_13 (by decide) (fun c_1 => ?_) (fun c_1 => ?_)
  · refine lv_aload_n hx hb dX0_order_38 rfl (lv_at hl 0 rfl) ?_
    refine va_get (D := gD G) (cl := vwCl) (tys := gT G) (ci := 2) (v := .ref (a 5)) (C := RX0) (T := TX0) (N := 12) hx hb hw inB_X0 hown hE.K hP 0 rfl rfl 4 (by decide) (hw _ bw98) (fun _ h9 => h9) rfl dX0_order_39 ?_
    refine lv_iload_n hx hb dX0_order_42 rfl (lv_at hl 1 rfl) ?_
    refine va_lald (tys := gT G) hx hb hE.K hP 5 1 rfl rfl h0 dX0_order_43 ?_
    refine lv_aload_n hx hb dX0_order_44 rfl (lv_at hl 0 rfl) ?_
    refine va_get (D := gD G) (cl := vwCl) (tys := gT G) (ci := 2) (v := .ref (a 5)) (C := RX0) (T := TX0) (N := 12) hx hb hw inB_X0 hown hE.K hP 0 rfl rfl 4 (by decide) (hw _ bw98) (fun _ h9 => h9) rfl dX0_order_45 ?_
    refine lv_iload_n hx hb dX0_order_48 rfl (lv_at hl 2 rfl) ?_
    refine va_lald (tys := gT G) hx hb hE.K hP 5 1 rfl rfl h1 dX0_order_49 ?_
    refine W.lcmp hx hb dX0_order_50 ?_
    refine lv_if_eq (tgt := 76) hx hb dX0_order_51 (by decide) (fun c_2 => ?_) (fun c_2 => ?_)
    · refine lv_iconst (v := (0 : Int32)) hx hb dX0_order_76 (by decide) ?_
      exact re_i hx hb hr hk dX0_order_77 (ei (Eq.trans (if_pos c_1) (if_pos c_2)))
    · refine lv_aload_n hx hb dX0_order_54 rfl (lv_at hl 0 rfl) ?_
      refine va_get (D := gD G) (cl := vwCl) (tys := gT G) (ci := 2) (v := .ref (a 5)) (C := RX0) (T := TX0) (N := 12) hx hb hw inB_X0 hown hE.K hP 0 rfl rfl 4 (by decide) (hw _ bw98) (fun _ h9 => h9) rfl dX0_order_55 ?_
      refine lv_iload_n hx hb dX0_order_58 rfl (lv_at hl 1 rfl) ?_
      refine va_lald (tys := gT G) hx hb hE.K hP 5 1 rfl rfl h0 dX0_order_59 ?_
      refine lv_aload_n hx hb dX0_order_60 rfl (lv_at hl 0 rfl) ?_
      refine va_get (D := gD G) (cl := vwCl) (tys := gT G) (ci := 2) (v := .ref (a 5)) (C := RX0) (T := TX0) (N := 12) hx hb hw inB_X0 hown hE.K hP 0 rfl rfl 4 (by decide) (hw _ bw98) (fun _ h9 => h9) rfl dX0_order_61 ?_
      refine lv_iload_n hx hb dX0_order_64 rfl (lv_at hl 2 rfl) ?_
      refine va_lald (tys := gT G) hx hb hE.K hP 5 1 rfl rfl h1 dX0_order_65 ?_
      refine W.lcmp hx hb dX0_order_66 ?_
      refine lv_if_ge (tgt := 74) hx hb dX0_order_67 (by decide) (fun c_3 => ?_) (fun c_3 => ?_)
      · refine lv_iconst (v := (1 : Int32)) hx hb dX0_order_74 (by decide) ?_
        exact re_i hx hb hr hk dX0_order_75 (ei (Eq.trans (if_pos c_1) (Eq.trans (if_neg c_2) (if_pos c_3))))
      · refine lv_iconst (v := (-1 : Int32)) hx hb dX0_order_70 (by decide) ?_
        refine lv_goto (tgt := 75) hx hb dX0_order_71 (by decide) ?_
        exact re_i hx hb hr hk dX0_order_75 (ei (Eq.trans (if_pos c_1) (Eq.trans (if_neg c_2) (if_neg c_3))))
  · refine lv_aload_n hx hb dX0_order_16 rfl (lv_at hl 0 rfl) ?_
    refine va_get (D := gD G) (cl := vwCl) (tys := gT G) (ci := 2) (v := .ref (a 4)) (C := RX0) (T := TX0) (N := 12) hx hb hw inB_X0 hown hE.K hP 0 rfl rfl 3 (by decide) (hw _ bw97) (fun _ h9 => h9) rfl dX0_order_17 ?_
    refine lv_iload_n hx hb dX0_order_20 rfl (lv_at hl 1 rfl) ?_
    refine va_lald (tys := gT G) hx hb hE.K hP 4 1 rfl rfl h0 dX0_order_21 ?_
    refine lv_aload_n hx hb dX0_order_22 rfl (lv_at hl 0 rfl) ?_
    refine va_get (D := gD G) (cl := vwCl) (tys := gT G) (ci := 2) (v := .ref (a 4)) (C := RX0) (T := TX0) (N := 12) hx hb hw inB_X0 hown hE.K hP 0 rfl rfl 3 (by decide) (hw _ bw97) (fun _ h9 => h9) rfl dX0_order_23 ?_
    refine lv_iload_n hx hb dX0_order_26 rfl (lv_at hl 2 rfl) ?_
    refine va_lald (tys := gT G) hx hb hE.K hP 4 1 rfl rfl h1 dX0_order_27 ?_
    refine W.lcmp hx hb dX0_order_28 ?_
    refine lv_if_ge (tgt := 36) hx hb dX0_order_29 (by decide) (fun c_4 => ?_) (fun c_4 => ?_)
    · refine lv_iconst (v := (1 : Int32)) hx hb dX0_order_36 (by decide) ?_
      exact re_i hx hb hr hk dX0_order_37 (ei (Eq.trans (if_neg c_1) (if_pos c_4)))
    · refine lv_iconst (v := (-1 : Int32)) hx hb dX0_order_32 (by decide) ?_
      refine lv_goto (tgt := 37) hx hb dX0_order_33 (by decide) ?_
      exact re_i hx hb hr hk dX0_order_37 (ei (Eq.trans (if_neg c_1) (if_neg c_4)))

set_option maxRecDepth 100000 in
set_option maxHeartbeats 4000000 in
theorem c_X0_isSameLine (l : Launch) (G : GT) (a : Nat → Nat) (S : SX) (p0 : Int32) (p1 : Int32) (h0 : vp_in p0 6) (h1 : vp_in p1 6) : RO l G yX0_isSameLine cX0_isSameLine 3 (some .boolean) 1 [.ref (a 0), .int p0, .int p1] (wX G a S) (some (.int (fX0_isSameLine S p0 p1))) := by
  refine RO.ofW (own := RX0) rfl (by decide +kernel) (Nat.le_of_ble_eq_true rfl) ?_
  intro p e s m below meth c C hr hk hE hP ls hl
  have hx := C.1
  have hb := C.2.1
  have hown := C.2.2.2.1
  have hw := C.2.2.2.2
  have hl : lv_has ls 3 [(0, .ref (a 0)), (1, .int p0), (2, .int p1)] := hl
  refine lv_aload_n hx hb dX0_isSameLine_0 rfl (lv_at hl 0 rfl) ?_
  refine va_get (D := gD G) (cl := vwCl) (tys := gT G) (ci := 2) (v := .ref (a 4)) (C := RX0) (T := TX0) (N := 12) hx hb hw inB_X0 hown hE.K hP 0 rfl rfl 3 (by decide) (hw _ bw97) (fun _ h9 => h9) rfl dX0_isSameLine_1 ?_
  refine lv_iload_n hx hb dX0_isSameLine_4 rfl (lv_at hl 1 rfl) ?_
  refine va_lald (tys := gT G) hx hb hE.K hP 4 1 rfl rfl h0 dX0_isSameLine_5 ?_
  refine lv_aload_n hx hb dX0_isSameLine_6 rfl (lv_at hl 0 rfl) ?_
  refine va_get (D := gD G) (cl := vwCl) (tys := gT G) (ci := 2) (v := .ref (a 4)) (C := RX0) (T := TX0) (N := 12) hx hb hw inB_X0 hown hE.K hP 0 rfl rfl 3 (by decide) (hw _ bw97) (fun _ h9 => h9) rfl dX0_isSameLine_7 ?_
  refine lv_iload_n hx hb dX0_isSameLine_10 rfl (lv_at hl 2 rfl) ?_
  refine va_lald (tys := gT G) hx hb hE.K hP 4 1 rfl rfl h1 dX0_isSameLine_11 ?_
  refine W.lcmp hx hb dX0_isSameLine_12 ?_
  refine lv_if_ne (tgt := 36) hx hb dX0_isSameLine_13 (by decide) (fun c_1 => ?_) (fun c_1 => ?_)
  · refine lv_iconst (v := (0 : Int32)) hx hb dX0_isSameLine_36 (by decide) ?_
    exact re_z (ty := .boolean) hx hb hr hk (by decide) dX0_isSameLine_37 (ei (if_neg c_1))
  · refine lv_aload_n hx hb dX0_isSameLine_16 rfl (lv_at hl 0 rfl) ?_
    refine va_get (D := gD G) (cl := vwCl) (tys := gT G) (ci := 2) (v := .ref (a 5)) (C := RX0) (T := TX0) (N := 12) hx hb hw inB_X0 hown hE.K hP 0 rfl rfl 4 (by decide) (hw _ bw98) (fun _ h9 => h9) rfl dX0_isSameLine_17 ?_
    refine lv_iload_n hx hb dX0_isSameLine_20 rfl (lv_at hl 1 rfl) ?_
    refine va_lald (tys := gT G) hx hb hE.K hP 5 1 rfl rfl h0 dX0_isSameLine_21 ?_
    refine lv_aload_n hx hb dX0_isSameLine_22 rfl (lv_at hl 0 rfl) ?_
    refine va_get (D := gD G) (cl := vwCl) (tys := gT G) (ci := 2) (v := .ref (a 5)) (C := RX0) (T := TX0) (N := 12) hx hb hw inB_X0 hown hE.K hP 0 rfl rfl 4 (by decide) (hw _ bw98) (fun _ h9 => h9) rfl dX0_isSameLine_23 ?_
    refine lv_iload_n hx hb dX0_isSameLine_26 rfl (lv_at hl 2 rfl) ?_
    refine va_lald (tys := gT G) hx hb hE.K hP 5 1 rfl rfl h1 dX0_isSameLine_27 ?_
    refine W.lcmp hx hb dX0_isSameLine_28 ?_
    refine lv_if_ne (tgt := 36) hx hb dX0_isSameLine_29 (by decide) (fun c_2 => ?_) (fun c_2 => ?_)
    · refine lv_iconst (v := (0 : Int32)) hx hb dX0_isSameLine_36 (by decide) ?_
      exact re_z (ty := .boolean) hx hb hr hk (by decide) dX0_isSameLine_37 (ei (Eq.trans (if_pos c_1) (if_neg c_2)))
    · refine lv_iconst (v := (1 : Int32)) hx hb dX0_isSameLine_32 (by decide) ?_
      refine lv_goto (tgt := 37) hx hb dX0_isSameLine_33 (by decide) ?_
      exact re_z (ty := .boolean) hx hb hr hk (by decide) dX0_isSameLine_37 (ei (Eq.trans (if_pos c_1) (if_pos c_2)))

set_option maxRecDepth 100000 in
set_option maxHeartbeats 4000000 in
theorem c_X0_isGapRefused (l : Launch) (G : GT) (a : Nat → Nat) (S : SX) (p0 : Int32) (p1 : Int32) (p2 : Int32) (h0 : vp_in p0 6) (h1 : vp_in p1 6) : RO l G yX0_isGapRefused cX0_isGapRefused 4 (some .boolean) 2 [.ref (a 0), .int p0, .int p1, .int p2] (wX G a S) (some (.int (fX0_isGapRefused S p0 p1 p2))) := by
  refine RO.ofW (own := RX0) rfl (by decide +kernel) (Nat.le_of_ble_eq_true rfl) ?_
  intro p e s m below meth c C hr hk hE hP ls hl
  have hx := C.1
  have hb := C.2.1
  have hown := C.2.2.2.1
  have hw := C.2.2.2.2
  have hl : lv_has ls 4 [(0, .ref (a 0)), (1, .int p0), (2, .int p1), (3, .int p2)] := hl
  refine lv_iload_n hx hb dX0_isGapRefused_0 rfl (lv_at hl 3 rfl) ?_
  refine lv_if_ne (tgt := 33) hx hb dX0_isGapRefused_1 (by decide) (fun c_1 => ?_) (fun c_1 => ?_)
  · refine lv_iload_n hx hb dX0_isGapRefused_33 rfl (lv_at hl 3 rfl) ?_
    refine lv_bipush (v := (9 : Int32)) hx hb dX0_isGapRefused_34 (by decide) ?_
    refine lv_icmp_lt (tgt := 65) hx hb dX0_isGapRefused_36 (by decide) (fun c_2 => ?_) (fun c_2 => ?_)
    · refine lv_iconst (v := (0 : Int32)) hx hb dX0_isGapRefused_65 (by decide) ?_
      exact re_z (ty := .boolean) hx hb hr hk (by decide) dX0_isGapRefused_66 (ei (Eq.trans (if_neg c_1) (if_pos c_2)))
    · refine lv_aload_n hx hb dX0_isGapRefused_39 rfl (lv_at hl 0 rfl) ?_
      refine va_get (D := gD G) (cl := vwCl) (tys := gT G) (ci := 2) (v := .ref (a 3)) (C := RX0) (T := TX0) (N := 12) hx hb hw inB_X0 hown hE.K hP 0 rfl rfl 2 (by decide) (hw _ bw96) (fun _ h9 => h9) rfl dX0_isGapRefused_40 ?_
      refine lv_iload_n hx hb dX0_isGapRefused_43 rfl (lv_at hl 1 rfl) ?_
      refine va_iald (tys := gT G) hx hb hE.K hP 3 0 rfl rfl h0 dX0_isGapRefused_44 ?_
      refine lv_bipush (v := (28 : Int32)) hx hb dX0_isGapRefused_45 (by decide) ?_
      refine lv_icmp_gt (tgt := 61) hx hb dX0_isGapRefused_47 (by decide) (fun c_3 => ?_) (fun c_3 => ?_)
      · refine lv_iconst (v := (1 : Int32)) hx hb dX0_isGapRefused_61 (by decide) ?_
        refine lv_goto (tgt := 66) hx hb dX0_isGapRefused_62 (by decide) ?_
        exact re_z (ty := .boolean) hx hb hr hk (by decide) dX0_isGapRefused_66 (ei (Eq.trans (if_neg c_1) (Eq.trans (if_neg c_2) (if_pos c_3))))
      · refine lv_aload_n hx hb dX0_isGapRefused_50 rfl (lv_at hl 0 rfl) ?_
        refine va_get (D := gD G) (cl := vwCl) (tys := gT G) (ci := 2) (v := .ref (a 3)) (C := RX0) (T := TX0) (N := 12) hx hb hw inB_X0 hown hE.K hP 0 rfl rfl 2 (by decide) (hw _ bw96) (fun _ h9 => h9) rfl dX0_isGapRefused_51 ?_
        refine lv_iload_n hx hb dX0_isGapRefused_54 rfl (lv_at hl 2 rfl) ?_
        refine va_iald (tys := gT G) hx hb hE.K hP 3 0 rfl rfl h1 dX0_isGapRefused_55 ?_
        refine lv_bipush (v := (28 : Int32)) hx hb dX0_isGapRefused_56 (by decide) ?_
        refine lv_icmp_le (tgt := 65) hx hb dX0_isGapRefused_58 (by decide) (fun c_4 => ?_) (fun c_4 => ?_)
        · refine lv_iconst (v := (0 : Int32)) hx hb dX0_isGapRefused_65 (by decide) ?_
          exact re_z (ty := .boolean) hx hb hr hk (by decide) dX0_isGapRefused_66 (ei (Eq.trans (if_neg c_1) (Eq.trans (if_neg c_2) (Eq.trans (if_neg c_3) (if_pos c_4)))))
        · refine lv_iconst (v := (1 : Int32)) hx hb dX0_isGapRefused_61 (by decide) ?_
          refine lv_goto (tgt := 66) hx hb dX0_isGapRefused_62 (by decide) ?_
          exact re_z (ty := .boolean) hx hb hr hk (by decide) dX0_isGapRefused_66 (ei (Eq.trans (if_neg c_1) (Eq.trans (if_neg c_2) (Eq.trans (if_neg c_3) (if_neg c_4)))))
  · refine lv_aload_n hx hb dX0_isGapRefused_4 rfl (lv_at hl 0 rfl) ?_
    refine va_get (D := gD G) (cl := vwCl) (tys := gT G) (ci := 2) (v := .ref (a 4)) (C := RX0) (T := TX0) (N := 12) hx hb hw inB_X0 hown hE.K hP 0 rfl rfl 3 (by decide) (hw _ bw97) (fun _ h9 => h9) rfl dX0_isGapRefused_5 ?_
    refine lv_iload_n hx hb dX0_isGapRefused_8 rfl (lv_at hl 2 rfl) ?_
    refine va_lald (tys := gT G) hx hb hE.K hP 4 1 rfl rfl h1 dX0_isGapRefused_9 ?_
    refine lv_aload_n hx hb dX0_isGapRefused_10 rfl (lv_at hl 0 rfl) ?_
    refine va_get (D := gD G) (cl := vwCl) (tys := gT G) (ci := 2) (v := .ref (a 4)) (C := RX0) (T := TX0) (N := 12) hx hb hw inB_X0 hown hE.K hP 0 rfl rfl 3 (by decide) (hw _ bw97) (fun _ h9 => h9) rfl dX0_isGapRefused_11 ?_
    refine lv_iload_n hx hb dX0_isGapRefused_14 rfl (lv_at hl 1 rfl) ?_
    refine va_lald (tys := gT G) hx hb hE.K hP 4 1 rfl rfl h0 dX0_isGapRefused_15 ?_
    refine lv_lsub hx hb dX0_isGapRefused_16 ?_
    refine rcSl (as := [.long ((xD S p1.toNatClampNeg) - (xD S p0.toNatClampNeg))]) (rest := []) C (c_J9_abs_067f4 l G ((xD S p1.toNatClampNeg) - (xD S p0.toNatClampNeg))) F_J9_abs_067f4 rfl bw809 bw810 hE vpn hl.1 dX0_isGapRefused_17 ⟨Nat.le_of_ble_eq_true rfl, Nat.le_of_ble_eq_true rfl⟩ rfl (Nat.le_of_ble_eq_true rfl) ⟨Nat.zero_le _, Nat.zero_le _⟩ ?_
    refine lv_ldc2 (v := (100000 : Int64)) hx hb hown (hw _ bw1133) dX0_isGapRefused_20 ?_
    refine W.lcmp hx hb dX0_isGapRefused_23 ?_
    refine lv_if_le (tgt := 31) hx hb dX0_isGapRefused_24 (by decide) (fun c_5 => ?_) (fun c_5 => ?_)
    · refine lv_iconst (v := (0 : Int32)) hx hb dX0_isGapRefused_31 (by decide) ?_
      exact re_z (ty := .boolean) hx hb hr hk (by decide) dX0_isGapRefused_32 (ei (Eq.trans (if_pos c_1) (if_pos c_5)))
    · refine lv_iconst (v := (1 : Int32)) hx hb dX0_isGapRefused_27 (by decide) ?_
      refine lv_goto (tgt := 32) hx hb dX0_isGapRefused_28 (by decide) ?_
      exact re_z (ty := .boolean) hx hb hr hk (by decide) dX0_isGapRefused_32 (ei (Eq.trans (if_pos c_1) (if_neg c_5)))

