set_option maxRecDepth 100000 in
set_option maxHeartbeats 4000000 in
theorem c_X0_wholeMonths (l : Launch) (G : GT) (a : Nat → Nat) (S : SX) (p0 : Int32) (p1 : Int32) (h0 : vp_in p0 6) (h1 : vp_in p1 6) : RO l G yX0_wholeMonths cX0_wholeMonths 6 (some .long) 2 [.ref (a 0), .int p0, .int p1] (wX G a S) (some (.long (fX0_wholeMonths S p0 p1))) := by
  refine RO.ofW (own := RX0) rfl (by decide +kernel) (Nat.le_of_ble_eq_true rfl) ?_
  intro p e s m below meth c C hr hk hE hP ls hl
  have hx := C.1
  have hb := C.2.1
  have hown := C.2.2.2.1
  have hw := C.2.2.2.2
  have hl : lv_has ls 6 [(0, .ref (a 0)), (1, .int p0), (2, .int p1)] := hl
  refine lv_aload_n hx hb dX0_wholeMonths_0 rfl (lv_at hl 0 rfl) ?_
  refine lv_iload_n hx hb dX0_wholeMonths_1 rfl (lv_at hl 2 rfl) ?_
  refine rcVl (as := [.int p1]) (rest := []) (cl := RX0) C (c_X0_monthCount l G a S p1 h1) F_X0_monthCount rfl bw548 bw550 bw25 hE hP (rv2 hE.K hP (q0 := 0) rfl) hl.1 dX0_wholeMonths_2 ⟨Nat.le_of_ble_eq_true rfl, Nat.le_of_ble_eq_true rfl⟩ rfl (Nat.le_of_ble_eq_true rfl) ⟨Nat.zero_le _, Nat.zero_le _⟩ ?_
  refine lv_aload_n hx hb dX0_wholeMonths_5 rfl (lv_at hl 0 rfl) ?_
  refine lv_iload_n hx hb dX0_wholeMonths_6 rfl (lv_at hl 1 rfl) ?_
  refine rcVl (as := [.int p0]) (rest := [.long (fX0_monthCount S p1)]) (cl := RX0) C (c_X0_monthCount l G a S p0 h0) F_X0_monthCount rfl bw548 bw550 bw25 hE hP (rv2 hE.K hP (q0 := 0) rfl) hl.1 dX0_wholeMonths_7 ⟨Nat.le_of_ble_eq_true rfl, Nat.le_of_ble_eq_true rfl⟩ rfl (Nat.le_of_ble_eq_true rfl) ⟨Nat.zero_le _, Nat.zero_le _⟩ ?_
  refine lv_lsub hx hb dX0_wholeMonths_10 ?_
  refine lv_lstore_n (lv' := [(3, .long ((fX0_monthCount S p1) - (fX0_monthCount S p0))), (0, .ref (a 0)), (1, .int p0), (2, .int p1)]) hx hb dX0_wholeMonths_11 rfl hl (Nat.le_of_ble_eq_true rfl) rfl (fun ls hl => ?_)
  refine lv_aload_n hx hb dX0_wholeMonths_12 rfl (lv_at hl 1 rfl) ?_
  refine va_get (D := gD G) (cl := vwCl) (tys := gT G) (ci := 2) (v := .ref (a 3)) (C := RX0) (T := TX0) (N := 12) hx hb hw inB_X0 hown hE.K hP 0 rfl rfl 2 (by decide) (hw _ bw96) (fun _ h9 => h9) rfl dX0_wholeMonths_13 ?_
  refine lv_iload_n hx hb dX0_wholeMonths_16 rfl (lv_at hl 3 rfl) ?_
  refine va_iald (tys := gT G) hx hb hE.K hP 3 0 rfl rfl h1 dX0_wholeMonths_17 ?_
  refine lv_aload_n hx hb dX0_wholeMonths_18 rfl (lv_at hl 1 rfl) ?_
  refine va_get (D := gD G) (cl := vwCl) (tys := gT G) (ci := 2) (v := .ref (a 3)) (C := RX0) (T := TX0) (N := 12) hx hb hw inB_X0 hown hE.K hP 0 rfl rfl 2 (by decide) (hw _ bw96) (fun _ h9 => h9) rfl dX0_wholeMonths_19 ?_
  refine lv_iload_n hx hb dX0_wholeMonths_22 rfl (lv_at hl 2 rfl) ?_
  refine va_iald (tys := gT G) hx hb hE.K hP 3 0 rfl rfl h0 dX0_wholeMonths_23 ?_
  refine lv_icmp_lt (tgt := 58) hx hb dX0_wholeMonths_24 (by decide) (fun c_1 => ?_) (fun c_1 => ?_)
  · refine lv_iconst (v := (1 : Int32)) hx hb dX0_wholeMonths_58 (by decide) ?_
    refine lv_goto (tgt := 63) hx hb dX0_wholeMonths_59 (by decide) ?_
    refine lv_istore (lv' := [(5, .int (1 : Int32)), (3, .long ((fX0_monthCount S p1) - (fX0_monthCount S p0))), (0, .ref (a 0)), (1, .int p0), (2, .int p1)]) hx hb dX0_wholeMonths_63 hl (Nat.le_of_ble_eq_true rfl) rfl (fun ls hl => ?_)
    refine lv_iload hx hb dX0_wholeMonths_65 (lv_at hl 0 rfl) ?_
    refine lv_if_eq (tgt := 76) hx hb dX0_wholeMonths_67 (by decide) (fun c_x => absurd c_x (by decide)) (fun _ => ?_)
    refine lv_lload_n hx hb dX0_wholeMonths_70 rfl (lv_at hl 1 rfl) ?_
    refine lv_lconst (v := (1 : Int64)) hx hb dX0_wholeMonths_71 (by decide) ?_
    refine lv_lsub hx hb dX0_wholeMonths_72 ?_
    refine lv_goto (tgt := 77) hx hb dX0_wholeMonths_73 (by decide) ?_
    exact re_l hx hb hr hk dX0_wholeMonths_77 (el (if_pos c_1))
  · refine lv_aload_n hx hb dX0_wholeMonths_27 rfl (lv_at hl 1 rfl) ?_
    refine va_get (D := gD G) (cl := vwCl) (tys := gT G) (ci := 2) (v := .ref (a 3)) (C := RX0) (T := TX0) (N := 12) hx hb hw inB_X0 hown hE.K hP 0 rfl rfl 2 (by decide) (hw _ bw96) (fun _ h9 => h9) rfl dX0_wholeMonths_28 ?_
    refine lv_iload_n hx hb dX0_wholeMonths_31 rfl (lv_at hl 3 rfl) ?_
    refine va_iald (tys := gT G) hx hb hE.K hP 3 0 rfl rfl h1 dX0_wholeMonths_32 ?_
    refine lv_aload_n hx hb dX0_wholeMonths_33 rfl (lv_at hl 1 rfl) ?_
    refine va_get (D := gD G) (cl := vwCl) (tys := gT G) (ci := 2) (v := .ref (a 3)) (C := RX0) (T := TX0) (N := 12) hx hb hw inB_X0 hown hE.K hP 0 rfl rfl 2 (by decide) (hw _ bw96) (fun _ h9 => h9) rfl dX0_wholeMonths_34 ?_
    refine lv_iload_n hx hb dX0_wholeMonths_37 rfl (lv_at hl 2 rfl) ?_
    refine va_iald (tys := gT G) hx hb hE.K hP 3 0 rfl rfl h0 dX0_wholeMonths_38 ?_
    refine lv_icmp_ne (tgt := 62) hx hb dX0_wholeMonths_39 (by decide) (fun c_2 => ?_) (fun c_2 => ?_)
    · refine lv_iconst (v := (0 : Int32)) hx hb dX0_wholeMonths_62 (by decide) ?_
      refine lv_istore (lv' := [(5, .int (0 : Int32)), (3, .long ((fX0_monthCount S p1) - (fX0_monthCount S p0))), (0, .ref (a 0)), (1, .int p0), (2, .int p1)]) hx hb dX0_wholeMonths_63 hl (Nat.le_of_ble_eq_true rfl) rfl (fun ls hl => ?_)
      refine lv_iload hx hb dX0_wholeMonths_65 (lv_at hl 0 rfl) ?_
      refine lv_if_eq (tgt := 76) hx hb dX0_wholeMonths_67 (by decide) (fun _ => ?_) (fun c_x => absurd (show (0 : Int32) = 0 from by decide) c_x)
      refine lv_lload_n hx hb dX0_wholeMonths_76 rfl (lv_at hl 1 rfl) ?_
      exact re_l hx hb hr hk dX0_wholeMonths_77 (el (Eq.trans (if_neg c_1) (if_neg c_2)))
    · refine lv_aload_n hx hb dX0_wholeMonths_42 rfl (lv_at hl 1 rfl) ?_
      refine va_get (D := gD G) (cl := vwCl) (tys := gT G) (ci := 2) (v := .ref (a 5)) (C := RX0) (T := TX0) (N := 12) hx hb hw inB_X0 hown hE.K hP 0 rfl rfl 4 (by decide) (hw _ bw98) (fun _ h9 => h9) rfl dX0_wholeMonths_43 ?_
      refine lv_iload_n hx hb dX0_wholeMonths_46 rfl (lv_at hl 3 rfl) ?_
      refine va_lald (tys := gT G) hx hb hE.K hP 5 1 rfl rfl h1 dX0_wholeMonths_47 ?_
      refine lv_aload_n hx hb dX0_wholeMonths_48 rfl (lv_at hl 1 rfl) ?_
      refine va_get (D := gD G) (cl := vwCl) (tys := gT G) (ci := 2) (v := .ref (a 5)) (C := RX0) (T := TX0) (N := 12) hx hb hw inB_X0 hown hE.K hP 0 rfl rfl 4 (by decide) (hw _ bw98) (fun _ h9 => h9) rfl dX0_wholeMonths_49 ?_
      refine lv_iload_n hx hb dX0_wholeMonths_52 rfl (lv_at hl 2 rfl) ?_
      refine va_lald (tys := gT G) hx hb hE.K hP 5 1 rfl rfl h0 dX0_wholeMonths_53 ?_
      refine W.lcmp hx hb dX0_wholeMonths_54 ?_
      refine k_dia (b := 0 ≤ (lg_cmp (xN S p1.toNatClampNeg) (xN S p0.toNatClampNeg))) (x := (0 : Int32)) (y := (1 : Int32)) (Wg := fun z9 => W _ _ _ _ _ _ _ _ _ _ _ _ _ _ _ (F0 m 63 ls (.int z9 :: _))) ?_ (fun t9 f9 => lv_if_ge (tgt := 62) hx hb dX0_wholeMonths_55 (by decide) (fun c_x => lv_iconst (v := (0 : Int32)) hx hb dX0_wholeMonths_62 (by decide) (t9 c_x)) (fun c_x => lv_iconst (v := (1 : Int32)) hx hb dX0_wholeMonths_58 (by decide) (lv_goto (tgt := 63) hx hb dX0_wholeMonths_59 (by decide) (f9 c_x))))
      refine lv_istore (lv' := [(5, .int (if 0 ≤ (lg_cmp (xN S p1.toNatClampNeg) (xN S p0.toNatClampNeg)) then (0 : Int32) else (1 : Int32))), (3, .long ((fX0_monthCount S p1) - (fX0_monthCount S p0))), (0, .ref (a 0)), (1, .int p0), (2, .int p1)]) hx hb dX0_wholeMonths_63 hl (Nat.le_of_ble_eq_true rfl) rfl (fun ls hl => ?_)
      refine lv_iload hx hb dX0_wholeMonths_65 (lv_at hl 0 rfl) ?_
      refine lv_if_eq (tgt := 76) hx hb dX0_wholeMonths_67 (by decide) (fun c_3 => ?_) (fun c_3 => ?_)
      · refine lv_lload_n hx hb dX0_wholeMonths_76 rfl (lv_at hl 1 rfl) ?_
        exact re_l hx hb hr hk dX0_wholeMonths_77 (el (Eq.trans (if_neg c_1) (Eq.trans (if_pos c_2) (if_pos c_3))))
      · refine lv_lload_n hx hb dX0_wholeMonths_70 rfl (lv_at hl 1 rfl) ?_
        refine lv_lconst (v := (1 : Int64)) hx hb dX0_wholeMonths_71 (by decide) ?_
        refine lv_lsub hx hb dX0_wholeMonths_72 ?_
        refine lv_goto (tgt := 77) hx hb dX0_wholeMonths_73 (by decide) ?_
        exact re_l hx hb hr hk dX0_wholeMonths_77 (el (Eq.trans (if_neg c_1) (Eq.trans (if_pos c_2) (if_neg c_3))))

set_option maxRecDepth 100000 in
set_option maxHeartbeats 4000000 in
theorem c_X0_gapInMonths (l : Launch) (G : GT) (a : Nat → Nat) (S : SX) (p0 : Int32) (p1 : Int32) (h0 : vp_in p0 6) (h1 : vp_in p1 6) : RO l G yX0_gapInMonths cX0_gapInMonths 3 (some .long) 3 [.ref (a 0), .int p0, .int p1] (wX G a S) (some (.long (fX0_gapInMonths S p0 p1))) := by
  refine RO.ofW (own := RX0) rfl (by decide +kernel) (Nat.le_of_ble_eq_true rfl) ?_
  intro p e s m below meth c C hr hk hE hP ls hl
  have hx := C.1
  have hb := C.2.1
  have hown := C.2.2.2.1
  have hw := C.2.2.2.2
  have hl : lv_has ls 3 [(0, .ref (a 0)), (1, .int p0), (2, .int p1)] := hl
  refine lv_aload_n hx hb dX0_gapInMonths_0 rfl (lv_at hl 0 rfl) ?_
  refine lv_iload_n hx hb dX0_gapInMonths_1 rfl (lv_at hl 2 rfl) ?_
  refine lv_iload_n hx hb dX0_gapInMonths_2 rfl (lv_at hl 1 rfl) ?_
  refine rcVi (as := [.int p1, .int p0]) (rest := []) (cl := RX0) C (c_X0_order l G a S p1 p0 h1 h0) F_X0_order rfl bw236 bw238 bw9 hE hP (rv2 hE.K hP (q0 := 0) rfl) hl.1 dX0_gapInMonths_3 ⟨Nat.le_of_ble_eq_true rfl, Nat.le_of_ble_eq_true rfl⟩ rfl (Nat.le_of_ble_eq_true rfl) ⟨Nat.zero_le _, Nat.zero_le _⟩ ?_
  refine lv_if_ge (tgt := 17) hx hb dX0_gapInMonths_6 (by decide) (fun c_1 => ?_) (fun c_1 => ?_)
  · refine lv_aload_n hx hb dX0_gapInMonths_17 rfl (lv_at hl 0 rfl) ?_
    refine lv_iload_n hx hb dX0_gapInMonths_18 rfl (lv_at hl 1 rfl) ?_
    refine lv_iload_n hx hb dX0_gapInMonths_19 rfl (lv_at hl 2 rfl) ?_
    refine rcVl (as := [.int p0, .int p1]) (rest := []) (cl := RX0) C (c_X0_wholeMonths l G a S p0 p1 h0 h1) F_X0_wholeMonths rfl bw1139 bw1141 bw32 hE hP (rv2 hE.K hP (q0 := 0) rfl) hl.1 dX0_gapInMonths_20 ⟨Nat.le_of_ble_eq_true rfl, Nat.le_of_ble_eq_true rfl⟩ rfl (Nat.le_of_ble_eq_true rfl) ⟨Nat.zero_le _, Nat.zero_le _⟩ ?_
    exact re_l hx hb hr hk dX0_gapInMonths_23 (el (if_pos c_1))
  · refine lv_aload_n hx hb dX0_gapInMonths_9 rfl (lv_at hl 0 rfl) ?_
    refine lv_iload_n hx hb dX0_gapInMonths_10 rfl (lv_at hl 2 rfl) ?_
    refine lv_iload_n hx hb dX0_gapInMonths_11 rfl (lv_at hl 1 rfl) ?_
    refine rcVl (as := [.int p1, .int p0]) (rest := []) (cl := RX0) C (c_X0_wholeMonths l G a S p1 p0 h1 h0) F_X0_wholeMonths rfl bw1139 bw1141 bw32 hE hP (rv2 hE.K hP (q0 := 0) rfl) hl.1 dX0_gapInMonths_12 ⟨Nat.le_of_ble_eq_true rfl, Nat.le_of_ble_eq_true rfl⟩ rfl (Nat.le_of_ble_eq_true rfl) ⟨Nat.zero_le _, Nat.zero_le _⟩ ?_
    refine lv_lneg hx hb dX0_gapInMonths_15 ?_
    exact re_l hx hb hr hk dX0_gapInMonths_16 (el (if_neg c_1))

set_option maxRecDepth 100000 in
set_option maxHeartbeats 4000000 in
theorem c_X0_isRepeated (l : Launch) (G : GT) (a : Nat → Nat) (S : SX) (p0 : Int32) (h0 : vp_in p0 6) : RO l G yX0_isRepeated cX0_isRepeated 3 (some .boolean) 2 [.ref (a 0), .int p0] (wX G a S) (some (.int (fX0_isRepeated S p0))) := by
  refine RO.ofW (own := RX0) rfl (by decide +kernel) (Nat.le_of_ble_eq_true rfl) ?_
  intro p e s m below meth c C hr hk hE hP ls hl
  have hx := C.1
  have hb := C.2.1
  have hown := C.2.2.2.1
  have hw := C.2.2.2.2
  have hl : lv_has ls 3 [(0, .ref (a 0)), (1, .int p0)] := hl
  refine lv_iconst (v := (0 : Int32)) hx hb dX0_isRepeated_0 (by decide) ?_
  refine lv_istore_n (lv' := [(2, .int (0 : Int32)), (0, .ref (a 0)), (1, .int p0)]) hx hb dX0_isRepeated_1 rfl hl (Nat.le_of_ble_eq_true rfl) rfl (fun ls hl => ?_)
  refine lv_iload_n hx hb dX0_isRepeated_2 rfl (lv_at hl 0 rfl) ?_
  refine lv_iload_n hx hb dX0_isRepeated_3 rfl (lv_at hl 2 rfl) ?_
  refine lv_icmp_ge (tgt := 24) hx hb dX0_isRepeated_4 (by decide) (fun c_1 => ?_) (fun c_1 => ?_)
  · refine lv_iconst (v := (0 : Int32)) hx hb dX0_isRepeated_24 (by decide) ?_
    exact re_z (ty := .boolean) hx hb hr hk (by decide) dX0_isRepeated_25 (ei (if_pos c_1))
  · refine lv_aload_n hx hb dX0_isRepeated_7 rfl (lv_at hl 1 rfl) ?_
    refine lv_iload_n hx hb dX0_isRepeated_8 rfl (lv_at hl 2 rfl) ?_
    refine lv_iload_n hx hb dX0_isRepeated_9 rfl (lv_at hl 0 rfl) ?_
    refine rcVi (as := [.int p0, .int (0 : Int32)]) (rest := []) (cl := RX0) C (c_X0_isSameLine l G a S p0 (0 : Int32) h0 (vp_in_lit 0)) F_X0_isSameLine rfl bw240 bw242 bw10 hE hP (rv2 hE.K hP (q0 := 0) rfl) hl.1 dX0_isRepeated_10 ⟨Nat.le_of_ble_eq_true rfl, Nat.le_of_ble_eq_true rfl⟩ rfl (Nat.le_of_ble_eq_true rfl) ⟨Nat.zero_le _, Nat.zero_le _⟩ ?_
    refine lv_if_eq (tgt := 18) hx hb dX0_isRepeated_13 (by decide) (fun c_2 => ?_) (fun c_2 => ?_)
    · refine lv_iinc (v := (1 : Int32)) (lv' := [(2, .int (1 : Int32)), (0, .ref (a 0)), (1, .int p0)]) hx hb dX0_isRepeated_18 hl (k := 0) rfl (by first | rfl | decide) (Nat.le_of_ble_eq_true rfl) rfl (fun ls hl => ?_)
      refine lv_goto (tgt := 2) hx hb dX0_isRepeated_21 (by decide) ?_
      refine lv_iload_n hx hb dX0_isRepeated_2 rfl (lv_at hl 0 rfl) ?_
      refine lv_iload_n hx hb dX0_isRepeated_3 rfl (lv_at hl 2 rfl) ?_
      refine lv_icmp_ge (tgt := 24) hx hb dX0_isRepeated_4 (by decide) (fun c_3 => ?_) (fun c_3 => ?_)
      · refine lv_iconst (v := (0 : Int32)) hx hb dX0_isRepeated_24 (by decide) ?_
        exact re_z (ty := .boolean) hx hb hr hk (by decide) dX0_isRepeated_25 (ei (Eq.trans (if_neg c_1) (Eq.trans (if_pos c_2) (if_pos c_3))))
      · refine lv_aload_n hx hb dX0_isRepeated_7 rfl (lv_at hl 1 rfl) ?_
        refine lv_iload_n hx hb dX0_isRepeated_8 rfl (lv_at hl 2 rfl) ?_
        refine lv_iload_n hx hb dX0_isRepeated_9 rfl (lv_at hl 0 rfl) ?_
        refine rcVi (as := [.int p0, .int (1 : Int32)]) (rest := []) (cl := RX0) C (c_X0_isSameLine l G a S p0 (1 : Int32) h0 (vp_in_lit 1)) F_X0_isSameLine rfl bw240 bw242 bw10 hE hP (rv2 hE.K hP (q0 := 0) rfl) hl.1 dX0_isRepeated_10 ⟨Nat.le_of_ble_eq_true rfl, Nat.le_of_ble_eq_true rfl⟩ rfl (Nat.le_of_ble_eq_true rfl) ⟨Nat.zero_le _, Nat.zero_le _⟩ ?_
        refine lv_if_eq (tgt := 18) hx hb dX0_isRepeated_13 (by decide) (fun c_4 => ?_) (fun c_4 => ?_)
        · refine lv_iinc (v := (2 : Int32)) (lv' := [(2, .int (2 : Int32)), (0, .ref (a 0)), (1, .int p0)]) hx hb dX0_isRepeated_18 hl (k := 0) rfl (by first | rfl | decide) (Nat.le_of_ble_eq_true rfl) rfl (fun ls hl => ?_)
          refine lv_goto (tgt := 2) hx hb dX0_isRepeated_21 (by decide) ?_
          refine lv_iload_n hx hb dX0_isRepeated_2 rfl (lv_at hl 0 rfl) ?_
          refine lv_iload_n hx hb dX0_isRepeated_3 rfl (lv_at hl 2 rfl) ?_
          refine lv_icmp_ge (tgt := 24) hx hb dX0_isRepeated_4 (by decide) (fun c_5 => ?_) (fun c_5 => ?_)
          · refine lv_iconst (v := (0 : Int32)) hx hb dX0_isRepeated_24 (by decide) ?_
            exact re_z (ty := .boolean) hx hb hr hk (by decide) dX0_isRepeated_25 (ei (Eq.trans (if_neg c_1) (Eq.trans (if_pos c_2) (Eq.trans (if_neg c_3) (Eq.trans (if_pos c_4) (if_pos c_5))))))
          · refine lv_aload_n hx hb dX0_isRepeated_7 rfl (lv_at hl 1 rfl) ?_
            refine lv_iload_n hx hb dX0_isRepeated_8 rfl (lv_at hl 2 rfl) ?_
            refine lv_iload_n hx hb dX0_isRepeated_9 rfl (lv_at hl 0 rfl) ?_
            refine rcVi (as := [.int p0, .int (2 : Int32)]) (rest := []) (cl := RX0) C (c_X0_isSameLine l G a S p0 (2 : Int32) h0 (vp_in_lit 2)) F_X0_isSameLine rfl bw240 bw242 bw10 hE hP (rv2 hE.K hP (q0 := 0) rfl) hl.1 dX0_isRepeated_10 ⟨Nat.le_of_ble_eq_true rfl, Nat.le_of_ble_eq_true rfl⟩ rfl (Nat.le_of_ble_eq_true rfl) ⟨Nat.zero_le _, Nat.zero_le _⟩ ?_
            refine lv_if_eq (tgt := 18) hx hb dX0_isRepeated_13 (by decide) (fun c_6 => ?_) (fun c_6 => ?_)
            · refine lv_iinc (v := (3 : Int32)) (lv' := [(2, .int (3 : Int32)), (0, .ref (a 0)), (1, .int p0)]) hx hb dX0_isRepeated_18 hl (k := 0) rfl (by first | rfl | decide) (Nat.le_of_ble_eq_true rfl) rfl (fun ls hl => ?_)
              refine lv_goto (tgt := 2) hx hb dX0_isRepeated_21 (by decide) ?_
              refine lv_iload_n hx hb dX0_isRepeated_2 rfl (lv_at hl 0 rfl) ?_
              refine lv_iload_n hx hb dX0_isRepeated_3 rfl (lv_at hl 2 rfl) ?_
              refine lv_icmp_ge (tgt := 24) hx hb dX0_isRepeated_4 (by decide) (fun c_7 => ?_) (fun c_7 => ?_)
              · refine lv_iconst (v := (0 : Int32)) hx hb dX0_isRepeated_24 (by decide) ?_
                exact re_z (ty := .boolean) hx hb hr hk (by decide) dX0_isRepeated_25 (ei (Eq.trans (if_neg c_1) (Eq.trans (if_pos c_2) (Eq.trans (if_neg c_3) (Eq.trans (if_pos c_4) (Eq.trans (if_neg c_5) (Eq.trans (if_pos c_6) (if_pos c_7))))))))
              · refine lv_aload_n hx hb dX0_isRepeated_7 rfl (lv_at hl 1 rfl) ?_
                refine lv_iload_n hx hb dX0_isRepeated_8 rfl (lv_at hl 2 rfl) ?_
                refine lv_iload_n hx hb dX0_isRepeated_9 rfl (lv_at hl 0 rfl) ?_
                refine rcVi (as := [.int p0, .int (3 : Int32)]) (rest := []) (cl := RX0) C (c_X0_isSameLine l G a S p0 (3 : Int32) h0 (vp_in_lit 3)) F_X0_isSameLine rfl bw240 bw242 bw10 hE hP (rv2 hE.K hP (q0 := 0) rfl) hl.1 dX0_isRepeated_10 ⟨Nat.le_of_ble_eq_true rfl, Nat.le_of_ble_eq_true rfl⟩ rfl (Nat.le_of_ble_eq_true rfl) ⟨Nat.zero_le _, Nat.zero_le _⟩ ?_
                refine lv_if_eq (tgt := 18) hx hb dX0_isRepeated_13 (by decide) (fun c_8 => ?_) (fun c_8 => ?_)
                · refine lv_iinc (v := (4 : Int32)) (lv' := [(2, .int (4 : Int32)), (0, .ref (a 0)), (1, .int p0)]) hx hb dX0_isRepeated_18 hl (k := 0) rfl (by first | rfl | decide) (Nat.le_of_ble_eq_true rfl) rfl (fun ls hl => ?_)
                  refine lv_goto (tgt := 2) hx hb dX0_isRepeated_21 (by decide) ?_
                  refine lv_iload_n hx hb dX0_isRepeated_2 rfl (lv_at hl 0 rfl) ?_
                  refine lv_iload_n hx hb dX0_isRepeated_3 rfl (lv_at hl 2 rfl) ?_
                  refine lv_icmp_ge (tgt := 24) hx hb dX0_isRepeated_4 (by decide) (fun c_9 => ?_) (fun c_9 => ?_)
                  · refine lv_iconst (v := (0 : Int32)) hx hb dX0_isRepeated_24 (by decide) ?_
                    exact re_z (ty := .boolean) hx hb hr hk (by decide) dX0_isRepeated_25 (ei (Eq.trans (if_neg c_1) (Eq.trans (if_pos c_2) (Eq.trans (if_neg c_3) (Eq.trans (if_pos c_4) (Eq.trans (if_neg c_5) (Eq.trans (if_pos c_6) (Eq.trans (if_neg c_7) (Eq.trans (if_pos c_8) (if_pos c_9))))))))))
                  · refine lv_aload_n hx hb dX0_isRepeated_7 rfl (lv_at hl 1 rfl) ?_
                    refine lv_iload_n hx hb dX0_isRepeated_8 rfl (lv_at hl 2 rfl) ?_
                    refine lv_iload_n hx hb dX0_isRepeated_9 rfl (lv_at hl 0 rfl) ?_
                    refine rcVi (as := [.int p0, .int (4 : Int32)]) (rest := []) (cl := RX0) C (c_X0_isSameLine l G a S p0 (4 : Int32) h0 (vp_in_lit 4)) F_X0_isSameLine rfl bw240 bw242 bw10 hE hP (rv2 hE.K hP (q0 := 0) rfl) hl.1 dX0_isRepeated_10 ⟨Nat.le_of_ble_eq_true rfl, Nat.le_of_ble_eq_true rfl⟩ rfl (Nat.le_of_ble_eq_true rfl) ⟨Nat.zero_le _, Nat.zero_le _⟩ ?_
                    refine lv_if_eq (tgt := 18) hx hb dX0_isRepeated_13 (by decide) (fun c_10 => ?_) (fun c_10 => ?_)
                    · refine lv_iinc (v := (5 : Int32)) (lv' := [(2, .int (5 : Int32)), (0, .ref (a 0)), (1, .int p0)]) hx hb dX0_isRepeated_18 hl (k := 0) rfl (by first | rfl | decide) (Nat.le_of_ble_eq_true rfl) rfl (fun ls hl => ?_)
                      refine lv_goto (tgt := 2) hx hb dX0_isRepeated_21 (by decide) ?_
                      refine lv_iload_n hx hb dX0_isRepeated_2 rfl (lv_at hl 0 rfl) ?_
                      refine lv_iload_n hx hb dX0_isRepeated_3 rfl (lv_at hl 2 rfl) ?_
                      refine lv_icmp_ge (tgt := 24) hx hb dX0_isRepeated_4 (by decide) (fun c_11 => ?_) (fun c_11 => ?_)
                      · refine lv_iconst (v := (0 : Int32)) hx hb dX0_isRepeated_24 (by decide) ?_
                        exact re_z (ty := .boolean) hx hb hr hk (by decide) dX0_isRepeated_25 (ei (Eq.trans (if_neg c_1) (Eq.trans (if_pos c_2) (Eq.trans (if_neg c_3) (Eq.trans (if_pos c_4) (Eq.trans (if_neg c_5) (Eq.trans (if_pos c_6) (Eq.trans (if_neg c_7) (Eq.trans (if_pos c_8) (Eq.trans (if_neg c_9) (Eq.trans (if_pos c_10) (if_pos c_11))))))))))))
                      · refine lv_aload_n hx hb dX0_isRepeated_7 rfl (lv_at hl 1 rfl) ?_
                        refine lv_iload_n hx hb dX0_isRepeated_8 rfl (lv_at hl 2 rfl) ?_
                        refine lv_iload_n hx hb dX0_isRepeated_9 rfl (lv_at hl 0 rfl) ?_
                        refine rcVi (as := [.int p0, .int (5 : Int32)]) (rest := []) (cl := RX0) C (c_X0_isSameLine l G a S p0 (5 : Int32) h0 (vp_in_lit 5)) F_X0_isSameLine rfl bw240 bw242 bw10 hE hP (rv2 hE.K hP (q0 := 0) rfl) hl.1 dX0_isRepeated_10 ⟨Nat.le_of_ble_eq_true rfl, Nat.le_of_ble_eq_true rfl⟩ rfl (Nat.le_of_ble_eq_true rfl) ⟨Nat.zero_le _, Nat.zero_le _⟩ ?_
                        refine lv_if_eq (tgt := 18) hx hb dX0_isRepeated_13 (by decide) (fun c_12 => ?_) (fun c_12 => ?_)
                        · refine lv_iinc (v := (6 : Int32)) (lv' := [(2, .int (6 : Int32)), (0, .ref (a 0)), (1, .int p0)]) hx hb dX0_isRepeated_18 hl (k := 0) rfl (by first | rfl | decide) (Nat.le_of_ble_eq_true rfl) rfl (fun ls hl => ?_)
                          refine lv_goto (tgt := 2) hx hb dX0_isRepeated_21 (by decide) ?_
                          refine lv_iload_n hx hb dX0_isRepeated_2 rfl (lv_at hl 0 rfl) ?_
                          refine lv_iload_n hx hb dX0_isRepeated_3 rfl (lv_at hl 2 rfl) ?_
                          refine lv_icmp_ge (tgt := 24) hx hb dX0_isRepeated_4 (by decide) (fun _ => ?_) (fun c_x => absurd (Int32.le_of_lt (vin_lt (by decide) h0)) c_x)
                          refine lv_iconst (v := (0 : Int32)) hx hb dX0_isRepeated_24 (by decide) ?_
                          exact re_z (ty := .boolean) hx hb hr hk (by decide) dX0_isRepeated_25 (ei (Eq.trans (if_neg c_1) (Eq.trans (if_pos c_2) (Eq.trans (if_neg c_3) (Eq.trans (if_pos c_4) (Eq.trans (if_neg c_5) (Eq.trans (if_pos c_6) (Eq.trans (if_neg c_7) (Eq.trans (if_pos c_8) (Eq.trans (if_neg c_9) (Eq.trans (if_pos c_10) (Eq.trans (if_neg c_11) (if_pos c_12)))))))))))))
                        · refine lv_iconst (v := (1 : Int32)) hx hb dX0_isRepeated_16 (by decide) ?_
                          exact re_z (ty := .boolean) hx hb hr hk (by decide) dX0_isRepeated_17 (ei (Eq.trans (if_neg c_1) (Eq.trans (if_pos c_2) (Eq.trans (if_neg c_3) (Eq.trans (if_pos c_4) (Eq.trans (if_neg c_5) (Eq.trans (if_pos c_6) (Eq.trans (if_neg c_7) (Eq.trans (if_pos c_8) (Eq.trans (if_neg c_9) (Eq.trans (if_pos c_10) (Eq.trans (if_neg c_11) (if_neg c_12)))))))))))))
                    · refine lv_iconst (v := (1 : Int32)) hx hb dX0_isRepeated_16 (by decide) ?_
                      exact re_z (ty := .boolean) hx hb hr hk (by decide) dX0_isRepeated_17 (ei (Eq.trans (if_neg c_1) (Eq.trans (if_pos c_2) (Eq.trans (if_neg c_3) (Eq.trans (if_pos c_4) (Eq.trans (if_neg c_5) (Eq.trans (if_pos c_6) (Eq.trans (if_neg c_7) (Eq.trans (if_pos c_8) (Eq.trans (if_neg c_9) (if_neg c_10)))))))))))
                · refine lv_iconst (v := (1 : Int32)) hx hb dX0_isRepeated_16 (by decide) ?_
                  exact re_z (ty := .boolean) hx hb hr hk (by decide) dX0_isRepeated_17 (ei (Eq.trans (if_neg c_1) (Eq.trans (if_pos c_2) (Eq.trans (if_neg c_3) (Eq.trans (if_pos c_4) (Eq.trans (if_neg c_5) (Eq.trans (if_pos c_6) (Eq.trans (if_neg c_7) (if_neg c_8)))))))))
            · refine lv_iconst (v := (1 : Int32)) hx hb dX0_isRepeated_16 (by decide) ?_
              exact re_z (ty := .boolean) hx hb hr hk (by decide) dX0_isRepeated_17 (ei (Eq.trans (if_neg c_1) (Eq.trans (if_pos c_2) (Eq.trans (if_neg c_3) (Eq.trans (if_pos c_4) (Eq.trans (if_neg c_5) (if_neg c_6)))))))
        · refine lv_iconst (v := (1 : Int32)) hx hb dX0_isRepeated_16 (by decide) ?_
          exact re_z (ty := .boolean) hx hb hr hk (by decide) dX0_isRepeated_17 (ei (Eq.trans (if_neg c_1) (Eq.trans (if_pos c_2) (Eq.trans (if_neg c_3) (if_neg c_4)))))
    · refine lv_iconst (v := (1 : Int32)) hx hb dX0_isRepeated_16 (by decide) ?_
      exact re_z (ty := .boolean) hx hb hr hk (by decide) dX0_isRepeated_17 (ei (Eq.trans (if_neg c_1) (if_neg c_2)))

