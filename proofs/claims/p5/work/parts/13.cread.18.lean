set_option maxRecDepth 100000 in
set_option maxHeartbeats 4000000 in
theorem c_X2_monthsOn (l : Launch) (G : GT) (b : Nat → Nat) (T : SM) (p0 : Int32) (p1 : Int32) (h0 : vp_in p0 6) (h1 : vp_in p1 6) : RO l G yX2_monthsOn cX2_monthsOn 6 (some .long) 1 [.ref (b 0), .int p0, .int p1] (wM G b T) (some (.long (fX2_monthsOn T p0 p1))) := by
  refine RO.ofW (own := RX2) rfl (by decide +kernel) (Nat.le_of_ble_eq_true rfl) ?_
  intro p e s m below meth c C hr hk hE hP ls hl
  have hx := C.1
  have hb := C.2.1
  have hown := C.2.2.2.1
  have hw := C.2.2.2.2
  have hl : lv_has ls 6 [(0, .ref (b 0)), (1, .int p0), (2, .int p1)] := hl
  refine lv_ldc2 (v := (12 : Int64)) hx hb hown (hw _ bw1368) dX2_monthsOn_0 ?_
  refine lv_aload_n hx hb dX2_monthsOn_3 rfl (lv_at hl 0 rfl) ?_
  refine va_get (D := gD G) (cl := vwCl) (tys := gT G) (ci := 4) (v := .ref (b 1)) (C := RX2) (T := TX2) (N := 12) hx hb hw inB_X2 hown hE.K hP 0 rfl rfl 1 (by decide) (hw _ bw1164) (fun _ h9 => h9) rfl dX2_monthsOn_4 ?_
  refine lv_iload_n hx hb dX2_monthsOn_7 rfl (lv_at hl 2 rfl) ?_
  refine va_iald (tys := gT G) hx hb hE.K hP 1 0 rfl rfl h1 dX2_monthsOn_8 ?_
  refine lv_aload_n hx hb dX2_monthsOn_9 rfl (lv_at hl 0 rfl) ?_
  refine va_get (D := gD G) (cl := vwCl) (tys := gT G) (ci := 4) (v := .ref (b 1)) (C := RX2) (T := TX2) (N := 12) hx hb hw inB_X2 hown hE.K hP 0 rfl rfl 1 (by decide) (hw _ bw1164) (fun _ h9 => h9) rfl dX2_monthsOn_10 ?_
  refine lv_iload_n hx hb dX2_monthsOn_13 rfl (lv_at hl 1 rfl) ?_
  refine va_iald (tys := gT G) hx hb hE.K hP 1 0 rfl rfl h0 dX2_monthsOn_14 ?_
  refine lv_isub hx hb dX2_monthsOn_15 ?_
  refine lv_i2l (v := (((my T p1.toNatClampNeg) - (my T p0.toNatClampNeg)).toInt64)) hx hb dX2_monthsOn_16 (by first | rfl | decide) ?_
  refine lv_lmul hx hb dX2_monthsOn_17 ?_
  refine lv_aload_n hx hb dX2_monthsOn_18 rfl (lv_at hl 0 rfl) ?_
  refine va_get (D := gD G) (cl := vwCl) (tys := gT G) (ci := 4) (v := .ref (b 2)) (C := RX2) (T := TX2) (N := 12) hx hb hw inB_X2 hown hE.K hP 0 rfl rfl 2 (by decide) (hw _ bw1165) (fun _ h9 => h9) rfl dX2_monthsOn_19 ?_
  refine lv_iload_n hx hb dX2_monthsOn_22 rfl (lv_at hl 2 rfl) ?_
  refine va_iald (tys := gT G) hx hb hE.K hP 2 0 rfl rfl h1 dX2_monthsOn_23 ?_
  refine lv_i2l (v := ((mm T p1.toNatClampNeg).toInt64)) hx hb dX2_monthsOn_24 (by first | rfl | decide) ?_
  refine lv_ladd hx hb dX2_monthsOn_25 ?_
  refine lv_aload_n hx hb dX2_monthsOn_26 rfl (lv_at hl 0 rfl) ?_
  refine va_get (D := gD G) (cl := vwCl) (tys := gT G) (ci := 4) (v := .ref (b 2)) (C := RX2) (T := TX2) (N := 12) hx hb hw inB_X2 hown hE.K hP 0 rfl rfl 2 (by decide) (hw _ bw1165) (fun _ h9 => h9) rfl dX2_monthsOn_27 ?_
  refine lv_iload_n hx hb dX2_monthsOn_30 rfl (lv_at hl 1 rfl) ?_
  refine va_iald (tys := gT G) hx hb hE.K hP 2 0 rfl rfl h0 dX2_monthsOn_31 ?_
  refine lv_i2l (v := ((mm T p0.toNatClampNeg).toInt64)) hx hb dX2_monthsOn_32 (by first | rfl | decide) ?_
  refine lv_lsub hx hb dX2_monthsOn_33 ?_
  refine lv_lstore_n (lv' := [(3, .long ((((12 : Int64) * (((my T p1.toNatClampNeg) - (my T p0.toNatClampNeg)).toInt64)) + ((mm T p1.toNatClampNeg).toInt64)) - ((mm T p0.toNatClampNeg).toInt64))), (0, .ref (b 0)), (1, .int p0), (2, .int p1)]) hx hb dX2_monthsOn_34 rfl hl (Nat.le_of_ble_eq_true rfl) rfl (fun ls hl => ?_)
  refine lv_aload_n hx hb dX2_monthsOn_35 rfl (lv_at hl 1 rfl) ?_
  refine va_get (D := gD G) (cl := vwCl) (tys := gT G) (ci := 4) (v := .ref (b 3)) (C := RX2) (T := TX2) (N := 12) hx hb hw inB_X2 hown hE.K hP 0 rfl rfl 3 (by decide) (hw _ bw1166) (fun _ h9 => h9) rfl dX2_monthsOn_36 ?_
  refine lv_iload_n hx hb dX2_monthsOn_39 rfl (lv_at hl 3 rfl) ?_
  refine va_iald (tys := gT G) hx hb hE.K hP 3 0 rfl rfl h1 dX2_monthsOn_40 ?_
  refine lv_aload_n hx hb dX2_monthsOn_41 rfl (lv_at hl 1 rfl) ?_
  refine va_get (D := gD G) (cl := vwCl) (tys := gT G) (ci := 4) (v := .ref (b 3)) (C := RX2) (T := TX2) (N := 12) hx hb hw inB_X2 hown hE.K hP 0 rfl rfl 3 (by decide) (hw _ bw1166) (fun _ h9 => h9) rfl dX2_monthsOn_42 ?_
  refine lv_iload_n hx hb dX2_monthsOn_45 rfl (lv_at hl 2 rfl) ?_
  refine va_iald (tys := gT G) hx hb hE.K hP 3 0 rfl rfl h0 dX2_monthsOn_46 ?_
  refine lv_icmp_lt (tgt := 81) hx hb dX2_monthsOn_47 (by decide) (fun c_1 => ?_) (fun c_1 => ?_)
  · refine lv_iconst (v := (1 : Int32)) hx hb dX2_monthsOn_81 (by decide) ?_
    refine lv_goto (tgt := 86) hx hb dX2_monthsOn_82 (by decide) ?_
    refine lv_istore (lv' := [(5, .int (1 : Int32)), (3, .long ((((12 : Int64) * (((my T p1.toNatClampNeg) - (my T p0.toNatClampNeg)).toInt64)) + ((mm T p1.toNatClampNeg).toInt64)) - ((mm T p0.toNatClampNeg).toInt64))), (0, .ref (b 0)), (1, .int p0), (2, .int p1)]) hx hb dX2_monthsOn_86 hl (Nat.le_of_ble_eq_true rfl) rfl (fun ls hl => ?_)
    refine lv_iload hx hb dX2_monthsOn_88 (lv_at hl 0 rfl) ?_
    refine lv_if_eq (tgt := 99) hx hb dX2_monthsOn_90 (by decide) (fun c_x => absurd c_x (by decide)) (fun _ => ?_)
    refine lv_lload_n hx hb dX2_monthsOn_93 rfl (lv_at hl 1 rfl) ?_
    refine lv_lconst (v := (1 : Int64)) hx hb dX2_monthsOn_94 (by decide) ?_
    refine lv_lsub hx hb dX2_monthsOn_95 ?_
    refine lv_goto (tgt := 100) hx hb dX2_monthsOn_96 (by decide) ?_
    exact re_l hx hb hr hk dX2_monthsOn_100 (el (if_pos c_1))
  · refine lv_aload_n hx hb dX2_monthsOn_50 rfl (lv_at hl 1 rfl) ?_
    refine va_get (D := gD G) (cl := vwCl) (tys := gT G) (ci := 4) (v := .ref (b 3)) (C := RX2) (T := TX2) (N := 12) hx hb hw inB_X2 hown hE.K hP 0 rfl rfl 3 (by decide) (hw _ bw1166) (fun _ h9 => h9) rfl dX2_monthsOn_51 ?_
    refine lv_iload_n hx hb dX2_monthsOn_54 rfl (lv_at hl 3 rfl) ?_
    refine va_iald (tys := gT G) hx hb hE.K hP 3 0 rfl rfl h1 dX2_monthsOn_55 ?_
    refine lv_aload_n hx hb dX2_monthsOn_56 rfl (lv_at hl 1 rfl) ?_
    refine va_get (D := gD G) (cl := vwCl) (tys := gT G) (ci := 4) (v := .ref (b 3)) (C := RX2) (T := TX2) (N := 12) hx hb hw inB_X2 hown hE.K hP 0 rfl rfl 3 (by decide) (hw _ bw1166) (fun _ h9 => h9) rfl dX2_monthsOn_57 ?_
    refine lv_iload_n hx hb dX2_monthsOn_60 rfl (lv_at hl 2 rfl) ?_
    refine va_iald (tys := gT G) hx hb hE.K hP 3 0 rfl rfl h0 dX2_monthsOn_61 ?_
    refine lv_icmp_ne (tgt := 85) hx hb dX2_monthsOn_62 (by decide) (fun c_2 => ?_) (fun c_2 => ?_)
    · refine lv_iconst (v := (0 : Int32)) hx hb dX2_monthsOn_85 (by decide) ?_
      refine lv_istore (lv' := [(5, .int (0 : Int32)), (3, .long ((((12 : Int64) * (((my T p1.toNatClampNeg) - (my T p0.toNatClampNeg)).toInt64)) + ((mm T p1.toNatClampNeg).toInt64)) - ((mm T p0.toNatClampNeg).toInt64))), (0, .ref (b 0)), (1, .int p0), (2, .int p1)]) hx hb dX2_monthsOn_86 hl (Nat.le_of_ble_eq_true rfl) rfl (fun ls hl => ?_)
      refine lv_iload hx hb dX2_monthsOn_88 (lv_at hl 0 rfl) ?_
      refine lv_if_eq (tgt := 99) hx hb dX2_monthsOn_90 (by decide) (fun _ => ?_) (fun c_x => absurd (show (0 : Int32) = 0 from by decide) c_x)
      refine lv_lload_n hx hb dX2_monthsOn_99 rfl (lv_at hl 1 rfl) ?_
      exact re_l hx hb hr hk dX2_monthsOn_100 (el (Eq.trans (if_neg c_1) (if_neg c_2)))
    · refine lv_aload_n hx hb dX2_monthsOn_65 rfl (lv_at hl 1 rfl) ?_
      refine va_get (D := gD G) (cl := vwCl) (tys := gT G) (ci := 4) (v := .ref (b 4)) (C := RX2) (T := TX2) (N := 12) hx hb hw inB_X2 hown hE.K hP 0 rfl rfl 4 (by decide) (hw _ bw1167) (fun _ h9 => h9) rfl dX2_monthsOn_66 ?_
      refine lv_iload_n hx hb dX2_monthsOn_69 rfl (lv_at hl 3 rfl) ?_
      refine va_lald (tys := gT G) hx hb hE.K hP 4 1 rfl rfl h1 dX2_monthsOn_70 ?_
      refine lv_aload_n hx hb dX2_monthsOn_71 rfl (lv_at hl 1 rfl) ?_
      refine va_get (D := gD G) (cl := vwCl) (tys := gT G) (ci := 4) (v := .ref (b 4)) (C := RX2) (T := TX2) (N := 12) hx hb hw inB_X2 hown hE.K hP 0 rfl rfl 4 (by decide) (hw _ bw1167) (fun _ h9 => h9) rfl dX2_monthsOn_72 ?_
      refine lv_iload_n hx hb dX2_monthsOn_75 rfl (lv_at hl 2 rfl) ?_
      refine va_lald (tys := gT G) hx hb hE.K hP 4 1 rfl rfl h0 dX2_monthsOn_76 ?_
      refine W.lcmp hx hb dX2_monthsOn_77 ?_
      refine k_dia (b := 0 ≤ (lg_cmp (mt T p1.toNatClampNeg) (mt T p0.toNatClampNeg))) (x := (0 : Int32)) (y := (1 : Int32)) (Wg := fun z9 => W _ _ _ _ _ _ _ _ _ _ _ _ _ _ _ (F0 m 86 ls (.int z9 :: _))) ?_ (fun t9 f9 => lv_if_ge (tgt := 85) hx hb dX2_monthsOn_78 (by decide) (fun c_x => lv_iconst (v := (0 : Int32)) hx hb dX2_monthsOn_85 (by decide) (t9 c_x)) (fun c_x => lv_iconst (v := (1 : Int32)) hx hb dX2_monthsOn_81 (by decide) (lv_goto (tgt := 86) hx hb dX2_monthsOn_82 (by decide) (f9 c_x))))
      refine lv_istore (lv' := [(5, .int (if 0 ≤ (lg_cmp (mt T p1.toNatClampNeg) (mt T p0.toNatClampNeg)) then (0 : Int32) else (1 : Int32))), (3, .long ((((12 : Int64) * (((my T p1.toNatClampNeg) - (my T p0.toNatClampNeg)).toInt64)) + ((mm T p1.toNatClampNeg).toInt64)) - ((mm T p0.toNatClampNeg).toInt64))), (0, .ref (b 0)), (1, .int p0), (2, .int p1)]) hx hb dX2_monthsOn_86 hl (Nat.le_of_ble_eq_true rfl) rfl (fun ls hl => ?_)
      refine lv_iload hx hb dX2_monthsOn_88 (lv_at hl 0 rfl) ?_
      refine lv_if_eq (tgt := 99) hx hb dX2_monthsOn_90 (by decide) (fun c_3 => ?_) (fun c_3 => ?_)
      · refine lv_lload_n hx hb dX2_monthsOn_99 rfl (lv_at hl 1 rfl) ?_
        exact re_l hx hb hr hk dX2_monthsOn_100 (el (Eq.trans (if_neg c_1) (Eq.trans (if_pos c_2) (if_pos c_3))))
      · refine lv_lload_n hx hb dX2_monthsOn_93 rfl (lv_at hl 1 rfl) ?_
        refine lv_lconst (v := (1 : Int64)) hx hb dX2_monthsOn_94 (by decide) ?_
        refine lv_lsub hx hb dX2_monthsOn_95 ?_
        refine lv_goto (tgt := 100) hx hb dX2_monthsOn_96 (by decide) ?_
        exact re_l hx hb hr hk dX2_monthsOn_100 (el (Eq.trans (if_neg c_1) (Eq.trans (if_pos c_2) (if_neg c_3))))

set_option maxRecDepth 100000 in
set_option maxHeartbeats 4000000 in
theorem c_X2_monthsBack (l : Launch) (G : GT) (b : Nat → Nat) (T : SM) (p0 : Int32) (p1 : Int32) (h0 : vp_in p0 6) (h1 : vp_in p1 6) : RO l G yX2_monthsBack cX2_monthsBack 3 (some .long) 2 [.ref (b 0), .int p0, .int p1] (wM G b T) (some (.long (fX2_monthsBack T p0 p1))) := by
  refine RO.ofW (own := RX2) rfl (by decide +kernel) (Nat.le_of_ble_eq_true rfl) ?_
  intro p e s m below meth c C hr hk hE hP ls hl
  have hx := C.1
  have hb := C.2.1
  have hown := C.2.2.2.1
  have hw := C.2.2.2.2
  have hl : lv_has ls 3 [(0, .ref (b 0)), (1, .int p0), (2, .int p1)] := hl
  refine lv_aload_n hx hb dX2_monthsBack_0 rfl (lv_at hl 0 rfl) ?_
  refine lv_iload_n hx hb dX2_monthsBack_1 rfl (lv_at hl 2 rfl) ?_
  refine lv_iload_n hx hb dX2_monthsBack_2 rfl (lv_at hl 1 rfl) ?_
  refine rcVl (as := [.int p1, .int p0]) (rest := []) (cl := RX2) C (c_X2_monthsOn l G b T p1 p0 h1 h0) F_X2_monthsOn rfl bw1588 bw1590 bw51 hE hP (va_recv hE.K hP (ci := 4) (q0 := 0) rfl rfl) hl.1 dX2_monthsBack_3 ⟨Nat.le_of_ble_eq_true rfl, Nat.le_of_ble_eq_true rfl⟩ rfl (Nat.le_of_ble_eq_true rfl) ⟨Nat.zero_le _, Nat.zero_le _⟩ ?_
  exact re_l hx hb hr hk dX2_monthsBack_6 (el rfl)

