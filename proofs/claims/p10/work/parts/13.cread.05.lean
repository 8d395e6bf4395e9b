set_option maxRecDepth 100000 in
set_option maxHeartbeats 4000000 in
theorem c_X0_isSoundPair (l : Launch) (G : GT) (a : Nat → Nat) (S : SX) (p0 : Int32) (p1 : Int32) (h0 : vp_in p0 6) (h1 : vp_in p1 6) : RO l G yX0_isSoundPair cX0_isSoundPair 5 (some .boolean) 3 [.ref (a 0), .int p0, .int p1] (wX G a S) (some (.int (fX0_isSoundPair S p0 p1))) := by
  refine RO.ofW (own := RX0) rfl (by decide +kernel) (Nat.le_of_ble_eq_true rfl) ?_
  intro p e s m below meth c C hr hk hE hP ls hl
  have hx := C.1
  have hb := C.2.1
  have hown := C.2.2.2.1
  have hw := C.2.2.2.2
  have hl : lv_has ls 5 [(0, .ref (a 0)), (1, .int p0), (2, .int p1)] := hl
  refine lv_aload_n hx hb dX0_isSoundPair_0 rfl (lv_at hl 0 rfl) ?_
  refine lv_iload_n hx hb dX0_isSoundPair_1 rfl (lv_at hl 1 rfl) ?_
  refine lv_iload_n hx hb dX0_isSoundPair_2 rfl (lv_at hl 2 rfl) ?_
  refine rcVi (as := [.int p0, .int p1]) (rest := []) (cl := RX0) C (c_X0_order l G a S p0 p1 h0 h1) F_X0_order rfl bw236 bw238 bw9 hE hP (rv2 hE.K hP (q0 := 0) rfl) hl.1 dX0_isSoundPair_3 ⟨Nat.le_of_ble_eq_true rfl, Nat.le_of_ble_eq_true rfl⟩ rfl (Nat.le_of_ble_eq_true rfl) ⟨Nat.zero_le _, Nat.zero_le _⟩ ?_
  refine lv_istore_n (lv' := [(3, .int (fX0_order S p0 p1)), (0, .ref (a 0)), (1, .int p0), (2, .int p1)]) hx hb dX0_isSoundPair_6 rfl hl (Nat.le_of_ble_eq_true rfl) rfl (fun ls hl => ?_)
  refine lv_aload_n hx hb dX0_isSoundPair_7 rfl (lv_at hl 1 rfl) ?_
  refine lv_iload_n hx hb dX0_isSoundPair_8 rfl (lv_at hl 3 rfl) ?_
  refine lv_iload_n hx hb dX0_isSoundPair_9 rfl (lv_at hl 2 rfl) ?_
  refine rcVi (as := [.int p1, .int p0]) (rest := []) (cl := RX0) C (c_X0_order l G a S p1 p0 h1 h0) F_X0_order rfl bw236 bw238 bw9 hE hP (rv2 hE.K hP (q0 := 0) rfl) hl.1 dX0_isSoundPair_10 ⟨Nat.le_of_ble_eq_true rfl, Nat.le_of_ble_eq_true rfl⟩ rfl (Nat.le_of_ble_eq_true rfl) ⟨Nat.zero_le _, Nat.zero_le _⟩ ?_
  refine lv_istore (lv' := [(4, .int (fX0_order S p1 p0)), (3, .int (fX0_order S p0 p1)), (0, .ref (a 0)), (1, .int p0), (2, .int p1)]) hx hb dX0_isSoundPair_13 hl (Nat.le_of_ble_eq_true rfl) rfl (fun ls hl => ?_)
  refine lv_iload_n hx hb dX0_isSoundPair_15 rfl (lv_at hl 1 rfl) ?_
  refine lv_iload hx hb dX0_isSoundPair_16 (lv_at hl 0 rfl) ?_
  refine lv_ineg hx hb dX0_isSoundPair_18 ?_
  refine lv_icmp_ne (tgt := 65) hx hb dX0_isSoundPair_19 (by decide) (fun c_1 => ?_) (fun c_1 => ?_)
  · refine lv_iconst (v := (0 : Int32)) hx hb dX0_isSoundPair_65 (by decide) ?_
    exact re_z (ty := .boolean) hx hb hr hk (by decide) dX0_isSoundPair_66 (ei (if_neg c_1))
  · refine lv_aload_n hx hb dX0_isSoundPair_22 rfl (lv_at hl 2 rfl) ?_
    refine lv_iload_n hx hb dX0_isSoundPair_23 rfl (lv_at hl 3 rfl) ?_
    refine lv_iload_n hx hb dX0_isSoundPair_24 rfl (lv_at hl 4 rfl) ?_
    refine rcVi (as := [.int p0, .int p1]) (rest := []) (cl := RX0) C (c_X0_isSameLine l G a S p0 p1 h0 h1) F_X0_isSameLine rfl bw240 bw242 bw10 hE hP (rv2 hE.K hP (q0 := 0) rfl) hl.1 dX0_isSoundPair_25 ⟨Nat.le_of_ble_eq_true rfl, Nat.le_of_ble_eq_true rfl⟩ rfl (Nat.le_of_ble_eq_true rfl) ⟨Nat.zero_le _, Nat.zero_le _⟩ ?_
    refine lv_iload_n hx hb dX0_isSoundPair_28 rfl (lv_at hl 1 rfl) ?_
    refine k_dia (b := (fX0_order S p0 p1) = 0) (x := (1 : Int32)) (y := (0 : Int32)) (Wg := fun z9 => W _ _ _ _ _ _ _ _ _ _ _ _ _ _ _ (F0 m 37 ls (.int z9 :: _))) ?_ (fun t9 f9 => lv_if_ne (tgt := 36) hx hb dX0_isSoundPair_29 (by decide) (fun c_x => lv_iconst (v := (0 : Int32)) hx hb dX0_isSoundPair_36 (by decide) (f9 c_x)) (fun c_x => lv_iconst (v := (1 : Int32)) hx hb dX0_isSoundPair_32 (by decide) (lv_goto (tgt := 37) hx hb dX0_isSoundPair_33 (by decide) (t9 c_x))))
    refine lv_icmp_ne (tgt := 65) hx hb dX0_isSoundPair_37 (by decide) (fun c_2 => ?_) (fun c_2 => ?_)
    · refine lv_iconst (v := (0 : Int32)) hx hb dX0_isSoundPair_65 (by decide) ?_
      exact re_z (ty := .boolean) hx hb hr hk (by decide) dX0_isSoundPair_66 (ei (Eq.trans (if_pos c_1) (if_neg c_2)))
    · refine lv_aload_n hx hb dX0_isSoundPair_40 rfl (lv_at hl 2 rfl) ?_
      refine lv_iload_n hx hb dX0_isSoundPair_41 rfl (lv_at hl 3 rfl) ?_
      refine lv_iload_n hx hb dX0_isSoundPair_42 rfl (lv_at hl 4 rfl) ?_
      refine lv_bipush (v := (7 : Int32)) hx hb dX0_isSoundPair_43 (by decide) ?_
      refine rcVl (as := [.int p0, .int p1, .int (7 : Int32)]) (rest := []) (cl := RX0) C (c_X0_gapInUnits l G a S p0 p1 (7 : Int32) h0 h1) F_X0_gapInUnits rfl bw244 bw246 bw11 hE hP (rv2 hE.K hP (q0 := 0) rfl) hl.1 dX0_isSoundPair_45 ⟨Nat.le_of_ble_eq_true rfl, Nat.le_of_ble_eq_true rfl⟩ rfl (Nat.le_of_ble_eq_true rfl) ⟨Nat.zero_le _, Nat.zero_le _⟩ ?_
      refine lv_aload_n hx hb dX0_isSoundPair_48 rfl (lv_at hl 2 rfl) ?_
      refine lv_iload_n hx hb dX0_isSoundPair_49 rfl (lv_at hl 4 rfl) ?_
      refine lv_iload_n hx hb dX0_isSoundPair_50 rfl (lv_at hl 3 rfl) ?_
      refine lv_bipush (v := (7 : Int32)) hx hb dX0_isSoundPair_51 (by decide) ?_
      refine rcVl (as := [.int p1, .int p0, .int (7 : Int32)]) (rest := [.long (fX0_gapInUnits S p0 p1 (7 : Int32))]) (cl := RX0) C (c_X0_gapInUnits l G a S p1 p0 (7 : Int32) h1 h0) F_X0_gapInUnits rfl bw244 bw246 bw11 hE hP (rv2 hE.K hP (q0 := 0) rfl) hl.1 dX0_isSoundPair_53 ⟨Nat.le_of_ble_eq_true rfl, Nat.le_of_ble_eq_true rfl⟩ rfl (Nat.le_of_ble_eq_true rfl) ⟨Nat.zero_le _, Nat.zero_le _⟩ ?_
      refine lv_lneg hx hb dX0_isSoundPair_56 ?_
      refine W.lcmp hx hb dX0_isSoundPair_57 ?_
      refine lv_if_ne (tgt := 65) hx hb dX0_isSoundPair_58 (by decide) (fun c_3 => ?_) (fun c_3 => ?_)
      · refine lv_iconst (v := (0 : Int32)) hx hb dX0_isSoundPair_65 (by decide) ?_
        exact re_z (ty := .boolean) hx hb hr hk (by decide) dX0_isSoundPair_66 (ei (Eq.trans (if_pos c_1) (Eq.trans (if_pos c_2) (if_neg c_3))))
      · refine lv_iconst (v := (1 : Int32)) hx hb dX0_isSoundPair_61 (by decide) ?_
        refine lv_goto (tgt := 66) hx hb dX0_isSoundPair_62 (by decide) ?_
        exact re_z (ty := .boolean) hx hb hr hk (by decide) dX0_isSoundPair_66 (ei (Eq.trans (if_pos c_1) (Eq.trans (if_pos c_2) (if_pos c_3))))

set_option maxRecDepth 100000 in
set_option maxHeartbeats 4000000 in
theorem c_X0_dateField (l : Launch) (G : GT) (a : Nat → Nat) (S : SX) (p0 : Int32) (p1 : Int32) (h0 : vp_in p0 6) : RO l G yX0_dateField cX0_dateField 4 (some .long) 4 [.ref (a 0), .int p0, .int p1] (wX G a S) (some (.long (fX0_dateField S p0 p1))) := by
  refine RO.ofW (own := RX0) rfl (by decide +kernel) (Nat.le_of_ble_eq_true rfl) ?_
  intro p e s m below meth c C hr hk hE hP ls hl
  have hx := C.1
  have hb := C.2.1
  have hown := C.2.2.2.1
  have hw := C.2.2.2.2
  have hl : lv_has ls 4 [(0, .ref (a 0)), (1, .int p0), (2, .int p1)] := hl
  refine lv_aload_n hx hb dX0_dateField_0 rfl (lv_at hl 0 rfl) ?_
  refine va_get (D := gD G) (cl := vwCl) (tys := gT G) (ci := 2) (v := .ref (a 1)) (C := RX0) (T := TX0) (N := 12) hx hb hw inB_X0 hown hE.K hP 0 rfl rfl 0 (by decide) (hw _ bw94) (fun _ h9 => h9) rfl dX0_dateField_1 ?_
  refine lv_iload_n hx hb dX0_dateField_4 rfl (lv_at hl 1 rfl) ?_
  refine va_iald (tys := gT G) hx hb hE.K hP 1 0 rfl rfl h0 dX0_dateField_5 ?_
  refine lv_istore_n (lv' := [(3, .int (xy S p0.toNatClampNeg)), (0, .ref (a 0)), (1, .int p0), (2, .int p1)]) hx hb dX0_dateField_6 rfl hl (Nat.le_of_ble_eq_true rfl) rfl (fun ls hl => ?_)
  refine lv_iload_n hx hb dX0_dateField_7 rfl (lv_at hl 3 rfl) ?_
  by_cases c_1 : p1 = (15 : Int32)
  · refine lv_tableIn (tgt := 72) (off := 64) hx hb dX0_dateField_8 (by rw [c_1]; decide) (by rw [c_1]; decide) (by rw [c_1]; decide) (by decide) ?_
    refine lv_aload_n hx hb dX0_dateField_72 rfl (lv_at hl 1 rfl) ?_
    refine va_get (D := gD G) (cl := vwCl) (tys := gT G) (ci := 2) (v := .ref (a 4)) (C := RX0) (T := TX0) (N := 12) hx hb hw inB_X0 hown hE.K hP 0 rfl rfl 3 (by decide) (hw _ bw97) (fun _ h9 => h9) rfl dX0_dateField_73 ?_
    refine lv_iload_n hx hb dX0_dateField_76 rfl (lv_at hl 2 rfl) ?_
    refine va_lald (tys := gT G) hx hb hE.K hP 4 1 rfl rfl h0 dX0_dateField_77 ?_
    refine rcSi (as := [.long (xD S p0.toNatClampNeg)]) (rest := []) C (c_X0_weekday l G (xD S p0.toNatClampNeg)) F_X0_weekday rfl bw262 bw263 hE vpn hl.1 dX0_dateField_78 ⟨Nat.le_of_ble_eq_true rfl, Nat.le_of_ble_eq_true rfl⟩ rfl (Nat.le_of_ble_eq_true rfl) ⟨Nat.zero_le _, Nat.zero_le _⟩ ?_
    refine lv_i2l (v := ((fX0_weekday (xD S p0.toNatClampNeg)).toInt64)) hx hb dX0_dateField_81 (by first | rfl | decide) ?_
    exact re_l hx hb hr hk dX0_dateField_82 (el (if_pos c_1))
  by_cases c_2 : p1 = (16 : Int32)
  · refine lv_tableIn (tgt := 83) (off := 75) hx hb dX0_dateField_8 (by rw [c_2]; decide) (by rw [c_2]; decide) (by rw [c_2]; decide) (by decide) ?_
    refine lv_aload_n hx hb dX0_dateField_83 rfl (lv_at hl 1 rfl) ?_
    refine va_get (D := gD G) (cl := vwCl) (tys := gT G) (ci := 2) (v := .ref (a 3)) (C := RX0) (T := TX0) (N := 12) hx hb hw inB_X0 hown hE.K hP 0 rfl rfl 2 (by decide) (hw _ bw96) (fun _ h9 => h9) rfl dX0_dateField_84 ?_
    refine lv_iload_n hx hb dX0_dateField_87 rfl (lv_at hl 2 rfl) ?_
    refine va_iald (tys := gT G) hx hb hE.K hP 3 0 rfl rfl h0 dX0_dateField_88 ?_
    refine lv_iconst (v := (1 : Int32)) hx hb dX0_dateField_89 (by decide) ?_
    refine lv_isub hx hb dX0_dateField_90 ?_
    refine lv_bipush (v := (7 : Int32)) hx hb dX0_dateField_91 (by decide) ?_
    refine lv_irem hx hb dX0_dateField_93 (by decide) ?_
    refine lv_iconst (v := (1 : Int32)) hx hb dX0_dateField_94 (by decide) ?_
    refine lv_iadd hx hb dX0_dateField_95 ?_
    refine lv_i2l (v := (((((xd S p0.toNatClampNeg) - (1 : Int32)) - ((xd S p0.toNatClampNeg) - (1 : Int32)) / (7 : Int32) * (7 : Int32)) + (1 : Int32)).toInt64)) hx hb dX0_dateField_96 (by first | rfl | decide) ?_
    exact re_l hx hb hr hk dX0_dateField_97 (el (Eq.trans (if_neg c_1) (if_pos c_2)))
  by_cases c_3 : p1 = (17 : Int32)
  · refine lv_tableIn (tgt := 98) (off := 90) hx hb dX0_dateField_8 (by rw [c_3]; decide) (by rw [c_3]; decide) (by rw [c_3]; decide) (by decide) ?_
    refine lv_aload_n hx hb dX0_dateField_98 rfl (lv_at hl 1 rfl) ?_
    refine lv_iload_n hx hb dX0_dateField_99 rfl (lv_at hl 2 rfl) ?_
    refine rcVi (as := [.int p0]) (rest := []) (cl := RX0) C (c_X0_yearDay l G a S p0 h0) F_X0_yearDay rfl bw182 bw184 bw3 hE hP (rv2 hE.K hP (q0 := 0) rfl) hl.1 dX0_dateField_100 ⟨Nat.le_of_ble_eq_true rfl, Nat.le_of_ble_eq_true rfl⟩ rfl (Nat.le_of_ble_eq_true rfl) ⟨Nat.zero_le _, Nat.zero_le _⟩ ?_
    refine lv_iconst (v := (1 : Int32)) hx hb dX0_dateField_103 (by decide) ?_
    refine lv_isub hx hb dX0_dateField_104 ?_
    refine lv_bipush (v := (7 : Int32)) hx hb dX0_dateField_105 (by decide) ?_
    refine lv_irem hx hb dX0_dateField_107 (by decide) ?_
    refine lv_iconst (v := (1 : Int32)) hx hb dX0_dateField_108 (by decide) ?_
    refine lv_iadd hx hb dX0_dateField_109 ?_
    refine lv_i2l (v := (((((fX0_yearDay S p0) - (1 : Int32)) - ((fX0_yearDay S p0) - (1 : Int32)) / (7 : Int32) * (7 : Int32)) + (1 : Int32)).toInt64)) hx hb dX0_dateField_110 (by first | rfl | decide) ?_
    exact re_l hx hb hr hk dX0_dateField_111 (el (Eq.trans (if_neg c_1) (Eq.trans (if_neg c_2) (if_pos c_3))))
  by_cases c_4 : p1 = (18 : Int32)
  · refine lv_tableIn (tgt := 112) (off := 104) hx hb dX0_dateField_8 (by rw [c_4]; decide) (by rw [c_4]; decide) (by rw [c_4]; decide) (by decide) ?_
    refine lv_aload_n hx hb dX0_dateField_112 rfl (lv_at hl 1 rfl) ?_
    refine va_get (D := gD G) (cl := vwCl) (tys := gT G) (ci := 2) (v := .ref (a 3)) (C := RX0) (T := TX0) (N := 12) hx hb hw inB_X0 hown hE.K hP 0 rfl rfl 2 (by decide) (hw _ bw96) (fun _ h9 => h9) rfl dX0_dateField_113 ?_
    refine lv_iload_n hx hb dX0_dateField_116 rfl (lv_at hl 2 rfl) ?_
    refine va_iald (tys := gT G) hx hb hE.K hP 3 0 rfl rfl h0 dX0_dateField_117 ?_
    refine lv_i2l (v := ((xd S p0.toNatClampNeg).toInt64)) hx hb dX0_dateField_118 (by first | rfl | decide) ?_
    exact re_l hx hb hr hk dX0_dateField_119 (el (Eq.trans (if_neg c_1) (Eq.trans (if_neg c_2) (Eq.trans (if_neg c_3) (if_pos c_4)))))
  by_cases c_5 : p1 = (19 : Int32)
  · refine lv_tableIn (tgt := 120) (off := 112) hx hb dX0_dateField_8 (by rw [c_5]; decide) (by rw [c_5]; decide) (by rw [c_5]; decide) (by decide) ?_
    refine lv_aload_n hx hb dX0_dateField_120 rfl (lv_at hl 1 rfl) ?_
    refine lv_iload_n hx hb dX0_dateField_121 rfl (lv_at hl 2 rfl) ?_
    refine rcVi (as := [.int p0]) (rest := []) (cl := RX0) C (c_X0_yearDay l G a S p0 h0) F_X0_yearDay rfl bw182 bw184 bw3 hE hP (rv2 hE.K hP (q0 := 0) rfl) hl.1 dX0_dateField_122 ⟨Nat.le_of_ble_eq_true rfl, Nat.le_of_ble_eq_true rfl⟩ rfl (Nat.le_of_ble_eq_true rfl) ⟨Nat.zero_le _, Nat.zero_le _⟩ ?_
    refine lv_i2l (v := ((fX0_yearDay S p0).toInt64)) hx hb dX0_dateField_125 (by first | rfl | decide) ?_
    exact re_l hx hb hr hk dX0_dateField_126 (el (Eq.trans (if_neg c_1) (Eq.trans (if_neg c_2) (Eq.trans (if_neg c_3) (Eq.trans (if_neg c_4) (if_pos c_5))))))
  by_cases c_6 : p1 = (20 : Int32)
  · refine lv_tableIn (tgt := 127) (off := 119) hx hb dX0_dateField_8 (by rw [c_6]; decide) (by rw [c_6]; decide) (by rw [c_6]; decide) (by decide) ?_
    refine lv_aload_n hx hb dX0_dateField_127 rfl (lv_at hl 1 rfl) ?_
    refine va_get (D := gD G) (cl := vwCl) (tys := gT G) (ci := 2) (v := .ref (a 4)) (C := RX0) (T := TX0) (N := 12) hx hb hw inB_X0 hown hE.K hP 0 rfl rfl 3 (by decide) (hw _ bw97) (fun _ h9 => h9) rfl dX0_dateField_128 ?_
    refine lv_iload_n hx hb dX0_dateField_131 rfl (lv_at hl 2 rfl) ?_
    refine va_lald (tys := gT G) hx hb hE.K hP 4 1 rfl rfl h0 dX0_dateField_132 ?_
    exact re_l hx hb hr hk dX0_dateField_133 (el (Eq.trans (if_neg c_1) (Eq.trans (if_neg c_2) (Eq.trans (if_neg c_3) (Eq.trans (if_neg c_4) (Eq.trans (if_neg c_5) (if_pos c_6)))))))
  by_cases c_7 : p1 = (21 : Int32)
  · refine lv_tableIn (tgt := 134) (off := 126) hx hb dX0_dateField_8 (by rw [c_7]; decide) (by rw [c_7]; decide) (by rw [c_7]; decide) (by decide) ?_
    refine lv_aload_n hx hb dX0_dateField_134 rfl (lv_at hl 1 rfl) ?_
    refine va_get (D := gD G) (cl := vwCl) (tys := gT G) (ci := 2) (v := .ref (a 3)) (C := RX0) (T := TX0) (N := 12) hx hb hw inB_X0 hown hE.K hP 0 rfl rfl 2 (by decide) (hw _ bw96) (fun _ h9 => h9) rfl dX0_dateField_135 ?_
    refine lv_iload_n hx hb dX0_dateField_138 rfl (lv_at hl 2 rfl) ?_
    refine va_iald (tys := gT G) hx hb hE.K hP 3 0 rfl rfl h0 dX0_dateField_139 ?_
    refine lv_iconst (v := (1 : Int32)) hx hb dX0_dateField_140 (by decide) ?_
    refine lv_isub hx hb dX0_dateField_141 ?_
    refine lv_bipush (v := (7 : Int32)) hx hb dX0_dateField_142 (by decide) ?_
    refine lv_idiv hx hb dX0_dateField_144 (by decide) ?_
    refine lv_iconst (v := (1 : Int32)) hx hb dX0_dateField_145 (by decide) ?_
    refine lv_iadd hx hb dX0_dateField_146 ?_
    refine lv_i2l (v := (((((xd S p0.toNatClampNeg) - (1 : Int32)) / (7 : Int32)) + (1 : Int32)).toInt64)) hx hb dX0_dateField_147 (by first | rfl | decide) ?_
    exact re_l hx hb hr hk dX0_dateField_148 (el (Eq.trans (if_neg c_1) (Eq.trans (if_neg c_2) (Eq.trans (if_neg c_3) (Eq.trans (if_neg c_4) (Eq.trans (if_neg c_5) (Eq.trans (if_neg c_6) (if_pos c_7))))))))
  by_cases c_8 : p1 = (22 : Int32)
  · refine lv_tableIn (tgt := 149) (off := 141) hx hb dX0_dateField_8 (by rw [c_8]; decide) (by rw [c_8]; decide) (by rw [c_8]; decide) (by decide) ?_
    refine lv_aload_n hx hb dX0_dateField_149 rfl (lv_at hl 1 rfl) ?_
    refine lv_iload_n hx hb dX0_dateField_150 rfl (lv_at hl 2 rfl) ?_
    refine rcVi (as := [.int p0]) (rest := []) (cl := RX0) C (c_X0_yearDay l G a S p0 h0) F_X0_yearDay rfl bw182 bw184 bw3 hE hP (rv2 hE.K hP (q0 := 0) rfl) hl.1 dX0_dateField_151 ⟨Nat.le_of_ble_eq_true rfl, Nat.le_of_ble_eq_true rfl⟩ rfl (Nat.le_of_ble_eq_true rfl) ⟨Nat.zero_le _, Nat.zero_le _⟩ ?_
    refine lv_iconst (v := (1 : Int32)) hx hb dX0_dateField_154 (by decide) ?_
    refine lv_isub hx hb dX0_dateField_155 ?_
    refine lv_bipush (v := (7 : Int32)) hx hb dX0_dateField_156 (by decide) ?_
    refine lv_idiv hx hb dX0_dateField_158 (by decide) ?_
    refine lv_iconst (v := (1 : Int32)) hx hb dX0_dateField_159 (by decide) ?_
    refine lv_iadd hx hb dX0_dateField_160 ?_
    refine lv_i2l (v := (((((fX0_yearDay S p0) - (1 : Int32)) / (7 : Int32)) + (1 : Int32)).toInt64)) hx hb dX0_dateField_161 (by first | rfl | decide) ?_
    exact re_l hx hb hr hk dX0_dateField_162 (el (Eq.trans (if_neg c_1) (Eq.trans (if_neg c_2) (Eq.trans (if_neg c_3) (Eq.trans (if_neg c_4) (Eq.trans (if_neg c_5) (Eq.trans (if_neg c_6) (Eq.trans (if_neg c_7) (if_pos c_8)))))))))
  by_cases c_9 : p1 = (23 : Int32)
  · refine lv_tableIn (tgt := 163) (off := 155) hx hb dX0_dateField_8 (by rw [c_9]; decide) (by rw [c_9]; decide) (by rw [c_9]; decide) (by decide) ?_
    refine lv_aload_n hx hb dX0_dateField_163 rfl (lv_at hl 1 rfl) ?_
    refine va_get (D := gD G) (cl := vwCl) (tys := gT G) (ci := 2) (v := .ref (a 2)) (C := RX0) (T := TX0) (N := 12) hx hb hw inB_X0 hown hE.K hP 0 rfl rfl 1 (by decide) (hw _ bw95) (fun _ h9 => h9) rfl dX0_dateField_164 ?_
    refine lv_iload_n hx hb dX0_dateField_167 rfl (lv_at hl 2 rfl) ?_
    refine va_iald (tys := gT G) hx hb hE.K hP 2 0 rfl rfl h0 dX0_dateField_168 ?_
    refine lv_i2l (v := ((xm S p0.toNatClampNeg).toInt64)) hx hb dX0_dateField_169 (by first | rfl | decide) ?_
    exact re_l hx hb hr hk dX0_dateField_170 (el (Eq.trans (if_neg c_1) (Eq.trans (if_neg c_2) (Eq.trans (if_neg c_3) (Eq.trans (if_neg c_4) (Eq.trans (if_neg c_5) (Eq.trans (if_neg c_6) (Eq.trans (if_neg c_7) (Eq.trans (if_neg c_8) (if_pos c_9))))))))))
  by_cases c_10 : p1 = (24 : Int32)
  · refine lv_tableIn (tgt := 171) (off := 163) hx hb dX0_dateField_8 (by rw [c_10]; decide) (by rw [c_10]; decide) (by rw [c_10]; decide) (by decide) ?_
    refine lv_aload_n hx hb dX0_dateField_171 rfl (lv_at hl 1 rfl) ?_
    refine lv_iload_n hx hb dX0_dateField_172 rfl (lv_at hl 2 rfl) ?_
    refine rcVl (as := [.int p0]) (rest := []) (cl := RX0) C (c_X0_monthCount l G a S p0 h0) F_X0_monthCount rfl bw548 bw550 bw25 hE hP (rv2 hE.K hP (q0 := 0) rfl) hl.1 dX0_dateField_173 ⟨Nat.le_of_ble_eq_true rfl, Nat.le_of_ble_eq_true rfl⟩ rfl (Nat.le_of_ble_eq_true rfl) ⟨Nat.zero_le _, Nat.zero_le _⟩ ?_
    exact re_l hx hb hr hk dX0_dateField_176 (el (Eq.trans (if_neg c_1) (Eq.trans (if_neg c_2) (Eq.trans (if_neg c_3) (Eq.trans (if_neg c_4) (Eq.trans (if_neg c_5) (Eq.trans (if_neg c_6) (Eq.trans (if_neg c_7) (Eq.trans (if_neg c_8) (Eq.trans (if_neg c_9) (if_pos c_10)))))))))))
  by_cases c_11 : p1 = (25 : Int32)
  · refine lv_tableIn (tgt := 177) (off := 169) hx hb dX0_dateField_8 (by rw [c_11]; decide) (by rw [c_11]; decide) (by rw [c_11]; decide) (by decide) ?_
    refine lv_iload_n hx hb dX0_dateField_177 rfl (lv_at hl 0 rfl) ?_
    refine lv_if_le (tgt := 186) hx hb dX0_dateField_178 (by decide) (fun c_12 => ?_) (fun c_12 => ?_)
    · refine lv_iconst (v := (1 : Int32)) hx hb dX0_dateField_186 (by decide) ?_
      refine lv_iload_n hx hb dX0_dateField_187 rfl (lv_at hl 0 rfl) ?_
      refine lv_isub hx hb dX0_dateField_188 ?_
      refine lv_i2l (v := (((1 : Int32) - (xy S p0.toNatClampNeg)).toInt64)) hx hb dX0_dateField_189 (by first | rfl | decide) ?_
      exact re_l hx hb hr hk dX0_dateField_190 (el (Eq.trans (if_neg c_1) (Eq.trans (if_neg c_2) (Eq.trans (if_neg c_3) (Eq.trans (if_neg c_4) (Eq.trans (if_neg c_5) (Eq.trans (if_neg c_6) (Eq.trans (if_neg c_7) (Eq.trans (if_neg c_8) (Eq.trans (if_neg c_9) (Eq.trans (if_neg c_10) (Eq.trans (if_pos c_11) (if_pos c_12)))))))))))))
    · refine lv_iload_n hx hb dX0_dateField_181 rfl (lv_at hl 0 rfl) ?_
      refine lv_i2l (v := ((xy S p0.toNatClampNeg).toInt64)) hx hb dX0_dateField_182 (by first | rfl | decide) ?_
      refine lv_goto (tgt := 190) hx hb dX0_dateField_183 (by decide) ?_
      exact re_l hx hb hr hk dX0_dateField_190 (el (Eq.trans (if_neg c_1) (Eq.trans (if_neg c_2) (Eq.trans (if_neg c_3) (Eq.trans (if_neg c_4) (Eq.trans (if_neg c_5) (Eq.trans (if_neg c_6) (Eq.trans (if_neg c_7) (Eq.trans (if_neg c_8) (Eq.trans (if_neg c_9) (Eq.trans (if_neg c_10) (Eq.trans (if_pos c_11) (if_neg c_12)))))))))))))
  by_cases c_13 : p1 = (26 : Int32)
  · refine lv_tableIn (tgt := 191) (off := 183) hx hb dX0_dateField_8 (by rw [c_13]; decide) (by rw [c_13]; decide) (by rw [c_13]; decide) (by decide) ?_
    refine lv_iload_n hx hb dX0_dateField_191 rfl (lv_at hl 0 rfl) ?_
    refine lv_i2l (v := ((xy S p0.toNatClampNeg).toInt64)) hx hb dX0_dateField_192 (by first | rfl | decide) ?_
    exact re_l hx hb hr hk dX0_dateField_193 (el (Eq.trans (if_neg c_1) (Eq.trans (if_neg c_2) (Eq.trans (if_neg c_3) (Eq.trans (if_neg c_4) (Eq.trans (if_neg c_5) (Eq.trans (if_neg c_6) (Eq.trans (if_neg c_7) (Eq.trans (if_neg c_8) (Eq.trans (if_neg c_9) (Eq.trans (if_neg c_10) (Eq.trans (if_neg c_11) (if_pos c_13)))))))))))))
  have nc_1 := lv_neT c_1 (a := 15) (by decide)
  have nc_2 := lv_neT c_2 (a := 16) (by decide)
  have nc_3 := lv_neT c_3 (a := 17) (by decide)
  have nc_4 := lv_neT c_4 (a := 18) (by decide)
  have nc_5 := lv_neT c_5 (a := 19) (by decide)
  have nc_6 := lv_neT c_6 (a := 20) (by decide)
  have nc_7 := lv_neT c_7 (a := 21) (by decide)
  have nc_8 := lv_neT c_8 (a := 22) (by decide)
  have nc_9 := lv_neT c_9 (a := 23) (by decide)
  have nc_10 := lv_neT c_10 (a := 24) (by decide)
  have nc_11 := lv_neT c_11 (a := 25) (by decide)
  have nc_13 := lv_neT c_13 (a := 26) (by decide)
  refine lv_tableOut (tgt := 194) hx hb dX0_dateField_8 (by omega) (by decide) ?_
  refine lv_iload_n hx hb dX0_dateField_194 rfl (lv_at hl 0 rfl) ?_
  refine lv_if_le (tgt := 202) hx hb dX0_dateField_195 (by decide) (fun c_14 => ?_) (fun c_14 => ?_)
  · refine lv_lconst (v := (0 : Int64)) hx hb dX0_dateField_202 (by decide) ?_
    exact re_l hx hb hr hk dX0_dateField_203 (el (Eq.trans (if_neg c_1) (Eq.trans (if_neg c_2) (Eq.trans (if_neg c_3) (Eq.trans (if_neg c_4) (Eq.trans (if_neg c_5) (Eq.trans (if_neg c_6) (Eq.trans (if_neg c_7) (Eq.trans (if_neg c_8) (Eq.trans (if_neg c_9) (Eq.trans (if_neg c_10) (Eq.trans (if_neg c_11) (Eq.trans (if_neg c_13) (if_pos c_14))))))))))))))
  · refine lv_lconst (v := (1 : Int64)) hx hb dX0_dateField_198 (by decide) ?_
    refine lv_goto (tgt := 203) hx hb dX0_dateField_199 (by decide) ?_
    exact re_l hx hb hr hk dX0_dateField_203 (el (Eq.trans (if_neg c_1) (Eq.trans (if_neg c_2) (Eq.trans (if_neg c_3) (Eq.trans (if_neg c_4) (Eq.trans (if_neg c_5) (Eq.trans (if_neg c_6) (Eq.trans (if_neg c_7) (Eq.trans (if_neg c_8) (Eq.trans (if_neg c_9) (Eq.trans (if_neg c_10) (Eq.trans (if_neg c_11) (Eq.trans (if_neg c_13) (if_neg c_14))))))))))))))

set_option maxRecDepth 100000 in
set_option maxHeartbeats 4000000 in
theorem c_X2_dayNow (l : Launch) (G : GT) (b : Nat → Nat) (T : SM) (p0 : Int32) (h0 : vp_in p0 6) (hT : MO T) : RO l G yX2_dayNow cX2_dayNow 2 (some .long) 5 [.ref (b 0), .int p0] (wM G b T) (some (.long (fX2_dayNow T p0))) := by
  refine RO.ofW (own := RX2) rfl (by decide +kernel) (Nat.le_of_ble_eq_true rfl) ?_
  intro p e s m below meth c C hr hk hE hP ls hl
  have hx := C.1
  have hb := C.2.1
  have hown := C.2.2.2.1
  have hw := C.2.2.2.2
  have hl : lv_has ls 2 [(0, .ref (b 0)), (1, .int p0)] := hl
  refine lv_aload_n hx hb dX2_dayNow_0 rfl (lv_at hl 0 rfl) ?_
  refine va_get (D := gD G) (cl := vwCl) (tys := gT G) (ci := 4) (v := .ref (b 1)) (C := RX2) (T := TX2) (N := 12) hx hb hw inB_X2 hown hE.K hP 0 rfl rfl 1 (by decide) (hw _ bw1164) (fun _ h9 => h9) rfl dX2_dayNow_1 ?_
  refine lv_iload_n hx hb dX2_dayNow_4 rfl (lv_at hl 1 rfl) ?_
  refine va_iald (tys := gT G) hx hb hE.K hP 1 0 rfl rfl h0 dX2_dayNow_5 ?_
  refine lv_aload_n hx hb dX2_dayNow_6 rfl (lv_at hl 0 rfl) ?_
  refine va_get (D := gD G) (cl := vwCl) (tys := gT G) (ci := 4) (v := .ref (b 2)) (C := RX2) (T := TX2) (N := 12) hx hb hw inB_X2 hown hE.K hP 0 rfl rfl 2 (by decide) (hw _ bw1165) (fun _ h9 => h9) rfl dX2_dayNow_7 ?_
  refine lv_iload_n hx hb dX2_dayNow_10 rfl (lv_at hl 1 rfl) ?_
  refine va_iald (tys := gT G) hx hb hE.K hP 2 0 rfl rfl h0 dX2_dayNow_11 ?_
  refine lv_aload_n hx hb dX2_dayNow_12 rfl (lv_at hl 0 rfl) ?_
  refine va_get (D := gD G) (cl := vwCl) (tys := gT G) (ci := 4) (v := .ref (b 3)) (C := RX2) (T := TX2) (N := 12) hx hb hw inB_X2 hown hE.K hP 0 rfl rfl 3 (by decide) (hw _ bw1166) (fun _ h9 => h9) rfl dX2_dayNow_13 ?_
  refine lv_iload_n hx hb dX2_dayNow_16 rfl (lv_at hl 1 rfl) ?_
  refine va_iald (tys := gT G) hx hb hE.K hP 3 0 rfl rfl h0 dX2_dayNow_17 ?_
  refine rcSl (as := [.int (my T p0.toNatClampNeg), .int (mm T p0.toNatClampNeg), .int (md T p0.toNatClampNeg)]) (rest := []) C (c_X2_dayOf l G (my T p0.toNatClampNeg) (mm T p0.toNatClampNeg) (md T p0.toNatClampNeg) (MO.at hT h0)) F_X2_dayOf rfl bw1251 bw1252 hE vpn hl.1 dX2_dayNow_18 ⟨Nat.le_of_ble_eq_true rfl, Nat.le_of_ble_eq_true rfl⟩ rfl (Nat.le_of_ble_eq_true rfl) ⟨Nat.zero_le _, Nat.zero_le _⟩ ?_
  exact re_l hx hb hr hk dX2_dayNow_21 (el rfl)

set_option maxRecDepth 100000 in
set_option maxHeartbeats 4000000 in
theorem c_X2_weekDayNow (l : Launch) (G : GT) (b : Nat → Nat) (T : SM) (p0 : Int32) (h0 : vp_in p0 6) (hT : MO T) : RO l G yX2_weekDayNow cX2_weekDayNow 2 (some .int) 6 [.ref (b 0), .int p0] (wM G b T) (some (.int (fX2_weekDayNow T p0))) := by
  refine RO.ofW (own := RX2) rfl (by decide +kernel) (Nat.le_of_ble_eq_true rfl) ?_
  intro p e s m below meth c C hr hk hE hP ls hl
  have hx := C.1
  have hb := C.2.1
  have hown := C.2.2.2.1
  have hw := C.2.2.2.2
  have hl : lv_has ls 2 [(0, .ref (b 0)), (1, .int p0)] := hl
  refine lv_aload_n hx hb dX2_weekDayNow_0 rfl (lv_at hl 0 rfl) ?_
  refine lv_iload_n hx hb dX2_weekDayNow_1 rfl (lv_at hl 1 rfl) ?_
  refine rcVl (as := [.int p0]) (rest := []) (cl := RX2) C (c_X2_dayNow l G b T p0 h0 hT) F_X2_dayNow rfl bw1247 bw1249 bw38 hE hP (rv4 hE.K hP (q0 := 0) rfl) hl.1 dX2_weekDayNow_2 ⟨Nat.le_of_ble_eq_true rfl, Nat.le_of_ble_eq_true rfl⟩ rfl (Nat.le_of_ble_eq_true rfl) ⟨Nat.zero_le _, Nat.zero_le _⟩ ?_
  refine rcSi (as := [.long (fX2_dayNow T p0)]) (rest := []) C (c_X2_weekDay l G (fX2_dayNow T p0)) F_X2_weekDay rfl bw1271 bw1272 hE vpn hl.1 dX2_weekDayNow_5 ⟨Nat.le_of_ble_eq_true rfl, Nat.le_of_ble_eq_true rfl⟩ rfl (Nat.le_of_ble_eq_true rfl) ⟨Nat.zero_le _, Nat.zero_le _⟩ ?_
  exact re_i hx hb hr hk dX2_weekDayNow_8 (ei rfl)

set_option maxRecDepth 100000 in
set_option maxHeartbeats 4000000 in
theorem c_X2_handTime (l : Launch) (G : GT) (b : Nat → Nat) (T : SM) (p0 : Int32) : RO l G yX2_handTime cX2_handTime 4 (some .long) 1 [.ref (b 0), .int p0] (wM G b T) (some (.long (fX2_handTime T p0))) := by
  refine RO.ofW (own := RX2) rfl (by decide +kernel) (Nat.le_of_ble_eq_true rfl) ?_
  intro p e s m below meth c C hr hk hE hP ls hl
  have hx := C.1
  have hb := C.2.1
  have hown := C.2.2.2.1
  have hw := C.2.2.2.2
  have hl : lv_has ls 4 [(0, .ref (b 0)), (1, .int p0)] := hl
  refine lv_ldc2 (v := (60 : Int64)) hx hb hown (hw _ bw1237) dX2_handTime_0 ?_
  refine lv_bipush (v := (60 : Int32)) hx hb dX2_handTime_3 (by decide) ?_
  refine lv_aload_n hx hb dX2_handTime_5 rfl (lv_at hl 0 rfl) ?_
  refine va_get (D := gD G) (cl := vwCl) (tys := gT G) (ci := 4) (v := .int (mi T 0)) (C := RX2) (T := TX2) (N := 12) hx hb hw inB_X2 hown hE.K hP 0 rfl rfl 5 (by decide) (hw _ bw1168) (fun _ h9 => h9) rfl dX2_handTime_6 ?_
  refine lv_imul hx hb dX2_handTime_9 ?_
  refine lv_aload_n hx hb dX2_handTime_10 rfl (lv_at hl 0 rfl) ?_
  refine va_get (D := gD G) (cl := vwCl) (tys := gT G) (ci := 4) (v := .int (mi T 1)) (C := RX2) (T := TX2) (N := 12) hx hb hw inB_X2 hown hE.K hP 0 rfl rfl 6 (by decide) (hw _ bw1169) (fun _ h9 => h9) rfl dX2_handTime_11 ?_
  refine lv_iadd hx hb dX2_handTime_14 ?_
  refine lv_i2l (v := ((((60 : Int32) * (mi T 0)) + (mi T 1)).toInt64)) hx hb dX2_handTime_15 (by first | rfl | decide) ?_
  refine lv_lmul hx hb dX2_handTime_16 ?_
  refine lv_ldc2 (v := (1000000000 : Int64)) hx hb hown (hw _ bw1238) dX2_handTime_17 ?_
  refine lv_lmul hx hb dX2_handTime_20 ?_
  refine lv_lstore_n (lv' := [(2, .long (((60 : Int64) * ((((60 : Int32) * (mi T 0)) + (mi T 1)).toInt64)) * (1000000000 : Int64))), (0, .ref (b 0)), (1, .int p0)]) hx hb dX2_handTime_21 rfl hl (Nat.le_of_ble_eq_true rfl) rfl (fun ls hl => ?_)
  refine lv_iload_n hx hb dX2_handTime_22 rfl (lv_at hl 2 rfl) ?_
  refine lv_if_le (tgt := 38) hx hb dX2_handTime_23 (by decide) (fun c_1 => ?_) (fun c_1 => ?_)
  · refine lv_iload_n hx hb dX2_handTime_38 rfl (lv_at hl 2 rfl) ?_
    refine lv_iconst (v := (1 : Int32)) hx hb dX2_handTime_39 (by decide) ?_
    refine lv_icmp_le (tgt := 53) hx hb dX2_handTime_40 (by decide) (fun c_2 => ?_) (fun c_2 => ?_)
    · refine lv_lload_n hx hb dX2_handTime_53 rfl (lv_at hl 0 rfl) ?_
      exact re_l hx hb hr hk dX2_handTime_54 (el (Eq.trans (if_pos c_1) (if_pos c_2)))
    · refine lv_lload_n hx hb dX2_handTime_43 rfl (lv_at hl 0 rfl) ?_
      refine lv_aload_n hx hb dX2_handTime_44 rfl (lv_at hl 1 rfl) ?_
      refine va_get (D := gD G) (cl := vwCl) (tys := gT G) (ci := 4) (v := .int (mi T 3)) (C := RX2) (T := TX2) (N := 12) hx hb hw inB_X2 hown hE.K hP 0 rfl rfl 8 (by decide) (hw _ bw1171) (fun _ h9 => h9) rfl dX2_handTime_45 ?_
      refine lv_i2l (v := ((mi T 3).toInt64)) hx hb dX2_handTime_48 (by first | rfl | decide) ?_
      refine lv_ladd hx hb dX2_handTime_49 ?_
      refine lv_goto (tgt := 54) hx hb dX2_handTime_50 (by decide) ?_
      exact re_l hx hb hr hk dX2_handTime_54 (el (Eq.trans (if_pos c_1) (if_neg c_2)))
  · refine lv_lload_n hx hb dX2_handTime_26 rfl (lv_at hl 0 rfl) ?_
    refine lv_aload_n hx hb dX2_handTime_27 rfl (lv_at hl 1 rfl) ?_
    refine va_get (D := gD G) (cl := vwCl) (tys := gT G) (ci := 4) (v := .int (mi T 2)) (C := RX2) (T := TX2) (N := 12) hx hb hw inB_X2 hown hE.K hP 0 rfl rfl 7 (by decide) (hw _ bw1170) (fun _ h9 => h9) rfl dX2_handTime_28 ?_
    refine lv_i2l (v := ((mi T 2).toInt64)) hx hb dX2_handTime_31 (by first | rfl | decide) ?_
    refine lv_ldc2 (v := (1000000000 : Int64)) hx hb hown (hw _ bw1238) dX2_handTime_32 ?_
    refine lv_lmul hx hb dX2_handTime_35 ?_
    refine lv_ladd hx hb dX2_handTime_36 ?_
    refine lv_lstore_n (lv' := [(2, .long ((((60 : Int64) * ((((60 : Int32) * (mi T 0)) + (mi T 1)).toInt64)) * (1000000000 : Int64)) + (((mi T 2).toInt64) * (1000000000 : Int64)))), (0, .ref (b 0)), (1, .int p0)]) hx hb dX2_handTime_37 rfl hl (Nat.le_of_ble_eq_true rfl) rfl (fun ls hl => ?_)
    refine lv_iload_n hx hb dX2_handTime_38 rfl (lv_at hl 2 rfl) ?_
    refine lv_iconst (v := (1 : Int32)) hx hb dX2_handTime_39 (by decide) ?_
    refine lv_icmp_le (tgt := 53) hx hb dX2_handTime_40 (by decide) (fun c_3 => ?_) (fun c_3 => ?_)
    · refine lv_lload_n hx hb dX2_handTime_53 rfl (lv_at hl 0 rfl) ?_
      exact re_l hx hb hr hk dX2_handTime_54 (el (Eq.trans (if_neg c_1) (if_pos c_3)))
    · refine lv_lload_n hx hb dX2_handTime_43 rfl (lv_at hl 0 rfl) ?_
      refine lv_aload_n hx hb dX2_handTime_44 rfl (lv_at hl 1 rfl) ?_
      refine va_get (D := gD G) (cl := vwCl) (tys := gT G) (ci := 4) (v := .int (mi T 3)) (C := RX2) (T := TX2) (N := 12) hx hb hw inB_X2 hown hE.K hP 0 rfl rfl 8 (by decide) (hw _ bw1171) (fun _ h9 => h9) rfl dX2_handTime_45 ?_
      refine lv_i2l (v := ((mi T 3).toInt64)) hx hb dX2_handTime_48 (by first | rfl | decide) ?_
      refine lv_ladd hx hb dX2_handTime_49 ?_
      refine lv_goto (tgt := 54) hx hb dX2_handTime_50 (by decide) ?_
      exact re_l hx hb hr hk dX2_handTime_54 (el (Eq.trans (if_neg c_1) (if_neg c_3)))

set_option maxRecDepth 100000 in
set_option maxHeartbeats 4000000 in
theorem c_X2_inYearNow (l : Launch) (G : GT) (b : Nat → Nat) (T : SM) (p0 : Int32) (h0 : vp_in p0 6) (hT : MO T) : RO l G yX2_inYearNow cX2_inYearNow 2 (some .int) 4 [.ref (b 0), .int p0] (wM G b T) (some (.int (fX2_inYearNow T p0))) := by
  refine RO.ofW (own := RX2) rfl (by decide +kernel) (Nat.le_of_ble_eq_true rfl) ?_
  intro p e s m below meth c C hr hk hE hP ls hl
  have hx := C.1
  have hb := C.2.1
  have hown := C.2.2.2.1
  have hw := C.2.2.2.2
  have hl : lv_has ls 2 [(0, .ref (b 0)), (1, .int p0)] := hl
  refine lv_aload_n hx hb dX2_inYearNow_0 rfl (lv_at hl 0 rfl) ?_
  refine va_get (D := gD G) (cl := vwCl) (tys := gT G) (ci := 4) (v := .ref (b 1)) (C := RX2) (T := TX2) (N := 12) hx hb hw inB_X2 hown hE.K hP 0 rfl rfl 1 (by decide) (hw _ bw1164) (fun _ h9 => h9) rfl dX2_inYearNow_1 ?_
  refine lv_iload_n hx hb dX2_inYearNow_4 rfl (lv_at hl 1 rfl) ?_
  refine va_iald (tys := gT G) hx hb hE.K hP 1 0 rfl rfl h0 dX2_inYearNow_5 ?_
  refine lv_aload_n hx hb dX2_inYearNow_6 rfl (lv_at hl 0 rfl) ?_
  refine va_get (D := gD G) (cl := vwCl) (tys := gT G) (ci := 4) (v := .ref (b 2)) (C := RX2) (T := TX2) (N := 12) hx hb hw inB_X2 hown hE.K hP 0 rfl rfl 2 (by decide) (hw _ bw1165) (fun _ h9 => h9) rfl dX2_inYearNow_7 ?_
  refine lv_iload_n hx hb dX2_inYearNow_10 rfl (lv_at hl 1 rfl) ?_
  refine va_iald (tys := gT G) hx hb hE.K hP 2 0 rfl rfl h0 dX2_inYearNow_11 ?_
  refine lv_aload_n hx hb dX2_inYearNow_12 rfl (lv_at hl 0 rfl) ?_
  refine va_get (D := gD G) (cl := vwCl) (tys := gT G) (ci := 4) (v := .ref (b 3)) (C := RX2) (T := TX2) (N := 12) hx hb hw inB_X2 hown hE.K hP 0 rfl rfl 3 (by decide) (hw _ bw1166) (fun _ h9 => h9) rfl dX2_inYearNow_13 ?_
  refine lv_iload_n hx hb dX2_inYearNow_16 rfl (lv_at hl 1 rfl) ?_
  refine va_iald (tys := gT G) hx hb hE.K hP 3 0 rfl rfl h0 dX2_inYearNow_17 ?_
  refine rcSi (as := [.int (my T p0.toNatClampNeg), .int (mm T p0.toNatClampNeg), .int (md T p0.toNatClampNeg)]) (rest := []) C (c_X2_inYear l G (my T p0.toNatClampNeg) (mm T p0.toNatClampNeg) (md T p0.toNatClampNeg) (MO.at hT h0)) F_X2_inYear rfl bw1268 bw1269 hE vpn hl.1 dX2_inYearNow_18 ⟨Nat.le_of_ble_eq_true rfl, Nat.le_of_ble_eq_true rfl⟩ rfl (Nat.le_of_ble_eq_true rfl) ⟨Nat.zero_le _, Nat.zero_le _⟩ ?_
  exact re_i hx hb hr hk dX2_inYearNow_21 (ei rfl)

set_option maxRecDepth 100000 in
set_option maxHeartbeats 4000000 in
theorem c_X2_part (l : Launch) (G : GT) (b : Nat → Nat) (T : SM) (p0 : Int32) (p1 : Int64) (p2 : Int64) (h0 : vp_in p0 6) (n1 : ¬ p1 = 0) (n2 : ¬ p2 = 0) : RO l G yX2_part cX2_part 6 (some .int) 1 [.ref (b 0), .int p0, .long p1, .long p2] (wM G b T) (some (.int (fX2_part T p0 p1 p2))) := by
  refine RO.ofW (own := RX2) rfl (by decide +kernel) (Nat.le_of_ble_eq_true rfl) ?_
  intro p e s m below meth c C hr hk hE hP ls hl
  have hx := C.1
  have hb := C.2.1
  have hown := C.2.2.2.1
  have hw := C.2.2.2.2
  have hl : lv_has ls 6 [(0, .ref (b 0)), (1, .int p0), (2, .long p1), (4, .long p2)] := hl
  refine lv_aload_n hx hb dX2_part_0 rfl (lv_at hl 0 rfl) ?_
  refine va_get (D := gD G) (cl := vwCl) (tys := gT G) (ci := 4) (v := .ref (b 4)) (C := RX2) (T := TX2) (N := 12) hx hb hw inB_X2 hown hE.K hP 0 rfl rfl 4 (by decide) (hw _ bw1167) (fun _ h9 => h9) rfl dX2_part_1 ?_
  refine lv_iload_n hx hb dX2_part_4 rfl (lv_at hl 1 rfl) ?_
  refine va_lald (tys := gT G) hx hb hE.K hP 4 1 rfl rfl h0 dX2_part_5 ?_
  refine lv_lload_n hx hb dX2_part_6 rfl (lv_at hl 2 rfl) ?_
  refine lv_ldiv hx hb dX2_part_7 n1 ?_
  refine lv_lload hx hb dX2_part_8 (lv_at hl 3 rfl) ?_
  refine lv_lrem hx hb dX2_part_10 n2 ?_
  refine lv_l2i (v := ((((mt T p0.toNatClampNeg) / p1) - ((mt T p0.toNatClampNeg) / p1) / p2 * p2).toInt32)) hx hb dX2_part_11 (by first | rfl | decide) ?_
  exact re_i hx hb hr hk dX2_part_12 (ei rfl)

set_option maxRecDepth 100000 in
set_option maxHeartbeats 4000000 in
theorem c_X2_ofTime (l : Launch) (G : GT) (b : Nat → Nat) (T : SM) (p0 : Int32) (p1 : Int32) (h0 : vp_in p0 6) : RO l G yX2_ofTime cX2_ofTime 4 (some .long) 2 [.ref (b 0), .int p0, .int p1] (wM G b T) (some (.long (fX2_ofTime T p0 p1))) := by
  refine RO.ofW (own := RX2) rfl (by decide +kernel) (Nat.le_of_ble_eq_true rfl) ?_
  intro p e s m below meth c C hr hk hE hP ls hl
  have hx := C.1
  have hb := C.2.1
  have hown := C.2.2.2.1
  have hw := C.2.2.2.2
  have hl : lv_has ls 4 [(0, .ref (b 0)), (1, .int p0), (2, .int p1)] := hl
  refine lv_aload_n hx hb dX2_ofTime_0 rfl (lv_at hl 0 rfl) ?_
  refine lv_iload_n hx hb dX2_ofTime_1 rfl (lv_at hl 1 rfl) ?_
  refine lv_iconst (v := (5 : Int32)) hx hb dX2_ofTime_2 (by decide) ?_
  refine rcSl (as := [.int (5 : Int32)]) (rest := [.int p0, .ref (b 0)]) C (c_X2_nanosOf l G (5 : Int32)) F_X2_nanosOf rfl bw1354 bw1355 hE vpn hl.1 dX2_ofTime_3 ⟨Nat.le_of_ble_eq_true rfl, Nat.le_of_ble_eq_true rfl⟩ rfl (Nat.le_of_ble_eq_true rfl) ⟨Nat.zero_le _, Nat.zero_le _⟩ ?_
  refine lv_ldc2 (v := (24 : Int64)) hx hb hown (hw _ bw1332) dX2_ofTime_6 ?_
  refine rcVi (as := [.int p0, .long (fX2_nanosOf (5 : Int32)), .long (24 : Int64)]) (rest := []) (cl := RX2) C (c_X2_part l G b T p0 (fX2_nanosOf (5 : Int32)) (24 : Int64) h0 (nz_nanosOf (5 : Int32)) (by decide)) F_X2_part rfl bw1476 bw1478 bw45 hE hP (rv4 hE.K hP (q0 := 0) rfl) hl.1 dX2_ofTime_9 ⟨Nat.le_of_ble_eq_true rfl, Nat.le_of_ble_eq_true rfl⟩ rfl (Nat.le_of_ble_eq_true rfl) ⟨Nat.zero_le _, Nat.zero_le _⟩ ?_
  refine lv_istore_n (lv' := [(3, .int (fX2_part T p0 (fX2_nanosOf (5 : Int32)) (24 : Int64))), (0, .ref (b 0)), (1, .int p0), (2, .int p1)]) hx hb dX2_ofTime_12 rfl hl (Nat.le_of_ble_eq_true rfl) rfl (fun ls hl => ?_)
  refine lv_iload_n hx hb dX2_ofTime_13 rfl (lv_at hl 3 rfl) ?_
  by_cases c_1 : p1 = (0 : Int32)
  · refine lv_tableIn (tgt := 84) (off := 70) hx hb dX2_ofTime_14 (by rw [c_1]; decide) (by rw [c_1]; decide) (by rw [c_1]; decide) (by decide) ?_
    refine lv_aload_n hx hb dX2_ofTime_84 rfl (lv_at hl 1 rfl) ?_
    refine va_get (D := gD G) (cl := vwCl) (tys := gT G) (ci := 4) (v := .ref (b 4)) (C := RX2) (T := TX2) (N := 12) hx hb hw inB_X2 hown hE.K hP 0 rfl rfl 4 (by decide) (hw _ bw1167) (fun _ h9 => h9) rfl dX2_ofTime_85 ?_
    refine lv_iload_n hx hb dX2_ofTime_88 rfl (lv_at hl 2 rfl) ?_
    refine va_lald (tys := gT G) hx hb hE.K hP 4 1 rfl rfl h0 dX2_ofTime_89 ?_
    refine lv_ldc2 (v := (1000000000 : Int64)) hx hb hown (hw _ bw1238) dX2_ofTime_90 ?_
    refine lv_lrem hx hb dX2_ofTime_93 (by decide) ?_
    exact re_l hx hb hr hk dX2_ofTime_94 (el (if_pos c_1))
  by_cases c_2 : p1 = (1 : Int32)
  · refine lv_tableIn (tgt := 95) (off := 81) hx hb dX2_ofTime_14 (by rw [c_2]; decide) (by rw [c_2]; decide) (by rw [c_2]; decide) (by decide) ?_
    refine lv_aload_n hx hb dX2_ofTime_95 rfl (lv_at hl 1 rfl) ?_
    refine va_get (D := gD G) (cl := vwCl) (tys := gT G) (ci := 4) (v := .ref (b 4)) (C := RX2) (T := TX2) (N := 12) hx hb hw inB_X2 hown hE.K hP 0 rfl rfl 4 (by decide) (hw _ bw1167) (fun _ h9 => h9) rfl dX2_ofTime_96 ?_
    refine lv_iload_n hx hb dX2_ofTime_99 rfl (lv_at hl 2 rfl) ?_
    refine va_lald (tys := gT G) hx hb hE.K hP 4 1 rfl rfl h0 dX2_ofTime_100 ?_
    exact re_l hx hb hr hk dX2_ofTime_101 (el (Eq.trans (if_neg c_1) (if_pos c_2)))
  by_cases c_3 : p1 = (2 : Int32)
  · refine lv_tableIn (tgt := 102) (off := 88) hx hb dX2_ofTime_14 (by rw [c_3]; decide) (by rw [c_3]; decide) (by rw [c_3]; decide) (by decide) ?_
    refine lv_aload_n hx hb dX2_ofTime_102 rfl (lv_at hl 1 rfl) ?_
    refine va_get (D := gD G) (cl := vwCl) (tys := gT G) (ci := 4) (v := .ref (b 4)) (C := RX2) (T := TX2) (N := 12) hx hb hw inB_X2 hown hE.K hP 0 rfl rfl 4 (by decide) (hw _ bw1167) (fun _ h9 => h9) rfl dX2_ofTime_103 ?_
    refine lv_iload_n hx hb dX2_ofTime_106 rfl (lv_at hl 2 rfl) ?_
    refine va_lald (tys := gT G) hx hb hE.K hP 4 1 rfl rfl h0 dX2_ofTime_107 ?_
    refine lv_ldc2 (v := (1000000000 : Int64)) hx hb hown (hw _ bw1238) dX2_ofTime_108 ?_
    refine lv_lrem hx hb dX2_ofTime_111 (by decide) ?_
    refine lv_ldc2 (v := (1000 : Int64)) hx hb hown (hw _ bw1357) dX2_ofTime_112 ?_
    refine lv_ldiv hx hb dX2_ofTime_115 (by decide) ?_
    exact re_l hx hb hr hk dX2_ofTime_116 (el (Eq.trans (if_neg c_1) (Eq.trans (if_neg c_2) (if_pos c_3))))
  by_cases c_4 : p1 = (3 : Int32)
  · refine lv_tableIn (tgt := 117) (off := 103) hx hb dX2_ofTime_14 (by rw [c_4]; decide) (by rw [c_4]; decide) (by rw [c_4]; decide) (by decide) ?_
    refine lv_aload_n hx hb dX2_ofTime_117 rfl (lv_at hl 1 rfl) ?_
    refine va_get (D := gD G) (cl := vwCl) (tys := gT G) (ci := 4) (v := .ref (b 4)) (C := RX2) (T := TX2) (N := 12) hx hb hw inB_X2 hown hE.K hP 0 rfl rfl 4 (by decide) (hw _ bw1167) (fun _ h9 => h9) rfl dX2_ofTime_118 ?_
    refine lv_iload_n hx hb dX2_ofTime_121 rfl (lv_at hl 2 rfl) ?_
    refine va_lald (tys := gT G) hx hb hE.K hP 4 1 rfl rfl h0 dX2_ofTime_122 ?_
    refine lv_ldc2 (v := (1000 : Int64)) hx hb hown (hw _ bw1357) dX2_ofTime_123 ?_
    refine lv_ldiv hx hb dX2_ofTime_126 (by decide) ?_
    exact re_l hx hb hr hk dX2_ofTime_127 (el (Eq.trans (if_neg c_1) (Eq.trans (if_neg c_2) (Eq.trans (if_neg c_3) (if_pos c_4)))))
  by_cases c_5 : p1 = (4 : Int32)
  · refine lv_tableIn (tgt := 128) (off := 114) hx hb dX2_ofTime_14 (by rw [c_5]; decide) (by rw [c_5]; decide) (by rw [c_5]; decide) (by decide) ?_
    refine lv_aload_n hx hb dX2_ofTime_128 rfl (lv_at hl 1 rfl) ?_
    refine va_get (D := gD G) (cl := vwCl) (tys := gT G) (ci := 4) (v := .ref (b 4)) (C := RX2) (T := TX2) (N := 12) hx hb hw inB_X2 hown hE.K hP 0 rfl rfl 4 (by decide) (hw _ bw1167) (fun _ h9 => h9) rfl dX2_ofTime_129 ?_
    refine lv_iload_n hx hb dX2_ofTime_132 rfl (lv_at hl 2 rfl) ?_
    refine va_lald (tys := gT G) hx hb hE.K hP 4 1 rfl rfl h0 dX2_ofTime_133 ?_
    refine lv_ldc2 (v := (1000000000 : Int64)) hx hb hown (hw _ bw1238) dX2_ofTime_134 ?_
    refine lv_lrem hx hb dX2_ofTime_137 (by decide) ?_
    refine lv_ldc2 (v := (1000000 : Int64)) hx hb hown (hw _ bw1358) dX2_ofTime_138 ?_
    refine lv_ldiv hx hb dX2_ofTime_141 (by decide) ?_
    exact re_l hx hb hr hk dX2_ofTime_142 (el (Eq.trans (if_neg c_1) (Eq.trans (if_neg c_2) (Eq.trans (if_neg c_3) (Eq.trans (if_neg c_4) (if_pos c_5))))))
  by_cases c_6 : p1 = (5 : Int32)
  · refine lv_tableIn (tgt := 143) (off := 129) hx hb dX2_ofTime_14 (by rw [c_6]; decide) (by rw [c_6]; decide) (by rw [c_6]; decide) (by decide) ?_
    refine lv_aload_n hx hb dX2_ofTime_143 rfl (lv_at hl 1 rfl) ?_
    refine va_get (D := gD G) (cl := vwCl) (tys := gT G) (ci := 4) (v := .ref (b 4)) (C := RX2) (T := TX2) (N := 12) hx hb hw inB_X2 hown hE.K hP 0 rfl rfl 4 (by decide) (hw _ bw1167) (fun _ h9 => h9) rfl dX2_ofTime_144 ?_
    refine lv_iload_n hx hb dX2_ofTime_147 rfl (lv_at hl 2 rfl) ?_
    refine va_lald (tys := gT G) hx hb hE.K hP 4 1 rfl rfl h0 dX2_ofTime_148 ?_
    refine lv_ldc2 (v := (1000000 : Int64)) hx hb hown (hw _ bw1358) dX2_ofTime_149 ?_
    refine lv_ldiv hx hb dX2_ofTime_152 (by decide) ?_
    exact re_l hx hb hr hk dX2_ofTime_153 (el (Eq.trans (if_neg c_1) (Eq.trans (if_neg c_2) (Eq.trans (if_neg c_3) (Eq.trans (if_neg c_4) (Eq.trans (if_neg c_5) (if_pos c_6)))))))
  by_cases c_7 : p1 = (6 : Int32)
  · refine lv_tableIn (tgt := 154) (off := 140) hx hb dX2_ofTime_14 (by rw [c_7]; decide) (by rw [c_7]; decide) (by rw [c_7]; decide) (by decide) ?_
    refine lv_aload_n hx hb dX2_ofTime_154 rfl (lv_at hl 1 rfl) ?_
    refine lv_iload_n hx hb dX2_ofTime_155 rfl (lv_at hl 2 rfl) ?_
    refine lv_ldc2 (v := (1000000000 : Int64)) hx hb hown (hw _ bw1238) dX2_ofTime_156 ?_
    refine lv_ldc2 (v := (60 : Int64)) hx hb hown (hw _ bw1237) dX2_ofTime_159 ?_
    refine rcVi (as := [.int p0, .long (1000000000 : Int64), .long (60 : Int64)]) (rest := []) (cl := RX2) C (c_X2_part l G b T p0 (1000000000 : Int64) (60 : Int64) h0 (by decide) (by decide)) F_X2_part rfl bw1476 bw1478 bw45 hE hP (rv4 hE.K hP (q0 := 0) rfl) hl.1 dX2_ofTime_162 ⟨Nat.le_of_ble_eq_true rfl, Nat.le_of_ble_eq_true rfl⟩ rfl (Nat.le_of_ble_eq_true rfl) ⟨Nat.zero_le _, Nat.zero_le _⟩ ?_
    refine lv_i2l (v := ((fX2_part T p0 (1000000000 : Int64) (60 : Int64)).toInt64)) hx hb dX2_ofTime_165 (by first | rfl | decide) ?_
    exact re_l hx hb hr hk dX2_ofTime_166 (el (Eq.trans (if_neg c_1) (Eq.trans (if_neg c_2) (Eq.trans (if_neg c_3) (Eq.trans (if_neg c_4) (Eq.trans (if_neg c_5) (Eq.trans (if_neg c_6) (if_pos c_7))))))))
  by_cases c_8 : p1 = (7 : Int32)
  · refine lv_tableIn (tgt := 167) (off := 153) hx hb dX2_ofTime_14 (by rw [c_8]; decide) (by rw [c_8]; decide) (by rw [c_8]; decide) (by decide) ?_
    refine lv_aload_n hx hb dX2_ofTime_167 rfl (lv_at hl 1 rfl) ?_
    refine va_get (D := gD G) (cl := vwCl) (tys := gT G) (ci := 4) (v := .ref (b 4)) (C := RX2) (T := TX2) (N := 12) hx hb hw inB_X2 hown hE.K hP 0 rfl rfl 4 (by decide) (hw _ bw1167) (fun _ h9 => h9) rfl dX2_ofTime_168 ?_
    refine lv_iload_n hx hb dX2_ofTime_171 rfl (lv_at hl 2 rfl) ?_
    refine va_lald (tys := gT G) hx hb hE.K hP 4 1 rfl rfl h0 dX2_ofTime_172 ?_
    refine lv_ldc2 (v := (1000000000 : Int64)) hx hb hown (hw _ bw1238) dX2_ofTime_173 ?_
    refine lv_ldiv hx hb dX2_ofTime_176 (by decide) ?_
    exact re_l hx hb hr hk dX2_ofTime_177 (el (Eq.trans (if_neg c_1) (Eq.trans (if_neg c_2) (Eq.trans (if_neg c_3) (Eq.trans (if_neg c_4) (Eq.trans (if_neg c_5) (Eq.trans (if_neg c_6) (Eq.trans (if_neg c_7) (if_pos c_8)))))))))
  by_cases c_9 : p1 = (8 : Int32)
  · refine lv_tableIn (tgt := 178) (off := 164) hx hb dX2_ofTime_14 (by rw [c_9]; decide) (by rw [c_9]; decide) (by rw [c_9]; decide) (by decide) ?_
    refine lv_aload_n hx hb dX2_ofTime_178 rfl (lv_at hl 1 rfl) ?_
    refine lv_iload_n hx hb dX2_ofTime_179 rfl (lv_at hl 2 rfl) ?_
    refine lv_iconst (v := (4 : Int32)) hx hb dX2_ofTime_180 (by decide) ?_
    refine rcSl (as := [.int (4 : Int32)]) (rest := [.int p0, .ref (b 0)]) C (c_X2_nanosOf l G (4 : Int32)) F_X2_nanosOf rfl bw1354 bw1355 hE vpn hl.1 dX2_ofTime_181 ⟨Nat.le_of_ble_eq_true rfl, Nat.le_of_ble_eq_true rfl⟩ rfl (Nat.le_of_ble_eq_true rfl) ⟨Nat.zero_le _, Nat.zero_le _⟩ ?_
    refine lv_ldc2 (v := (60 : Int64)) hx hb hown (hw _ bw1237) dX2_ofTime_184 ?_
    refine rcVi (as := [.int p0, .long (fX2_nanosOf (4 : Int32)), .long (60 : Int64)]) (rest := []) (cl := RX2) C (c_X2_part l G b T p0 (fX2_nanosOf (4 : Int32)) (60 : Int64) h0 (nz_nanosOf (4 : Int32)) (by decide)) F_X2_part rfl bw1476 bw1478 bw45 hE hP (rv4 hE.K hP (q0 := 0) rfl) hl.1 dX2_ofTime_187 ⟨Nat.le_of_ble_eq_true rfl, Nat.le_of_ble_eq_true rfl⟩ rfl (Nat.le_of_ble_eq_true rfl) ⟨Nat.zero_le _, Nat.zero_le _⟩ ?_
    refine lv_i2l (v := ((fX2_part T p0 (fX2_nanosOf (4 : Int32)) (60 : Int64)).toInt64)) hx hb dX2_ofTime_190 (by first | rfl | decide) ?_
    exact re_l hx hb hr hk dX2_ofTime_191 (el (Eq.trans (if_neg c_1) (Eq.trans (if_neg c_2) (Eq.trans (if_neg c_3) (Eq.trans (if_neg c_4) (Eq.trans (if_neg c_5) (Eq.trans (if_neg c_6) (Eq.trans (if_neg c_7) (Eq.trans (if_neg c_8) (if_pos c_9))))))))))
  by_cases c_10 : p1 = (9 : Int32)
  · refine lv_tableIn (tgt := 192) (off := 178) hx hb dX2_ofTime_14 (by rw [c_10]; decide) (by rw [c_10]; decide) (by rw [c_10]; decide) (by decide) ?_
    refine lv_aload_n hx hb dX2_ofTime_192 rfl (lv_at hl 1 rfl) ?_
    refine va_get (D := gD G) (cl := vwCl) (tys := gT G) (ci := 4) (v := .ref (b 4)) (C := RX2) (T := TX2) (N := 12) hx hb hw inB_X2 hown hE.K hP 0 rfl rfl 4 (by decide) (hw _ bw1167) (fun _ h9 => h9) rfl dX2_ofTime_193 ?_
    refine lv_iload_n hx hb dX2_ofTime_196 rfl (lv_at hl 2 rfl) ?_
    refine va_lald (tys := gT G) hx hb hE.K hP 4 1 rfl rfl h0 dX2_ofTime_197 ?_
    refine lv_iconst (v := (4 : Int32)) hx hb dX2_ofTime_198 (by decide) ?_
    refine rcSl (as := [.int (4 : Int32)]) (rest := [.long (mt T p0.toNatClampNeg)]) C (c_X2_nanosOf l G (4 : Int32)) F_X2_nanosOf rfl bw1354 bw1355 hE vpn hl.1 dX2_ofTime_199 ⟨Nat.le_of_ble_eq_true rfl, Nat.le_of_ble_eq_true rfl⟩ rfl (Nat.le_of_ble_eq_true rfl) ⟨Nat.zero_le _, Nat.zero_le _⟩ ?_
    refine lv_ldiv hx hb dX2_ofTime_202 (nz_nanosOf (4 : Int32)) ?_
    exact re_l hx hb hr hk dX2_ofTime_203 (el (Eq.trans (if_neg c_1) (Eq.trans (if_neg c_2) (Eq.trans (if_neg c_3) (Eq.trans (if_neg c_4) (Eq.trans (if_neg c_5) (Eq.trans (if_neg c_6) (Eq.trans (if_neg c_7) (Eq.trans (if_neg c_8) (Eq.trans (if_neg c_9) (if_pos c_10)))))))))))
  by_cases c_11 : p1 = (10 : Int32)
  · refine lv_tableIn (tgt := 204) (off := 190) hx hb dX2_ofTime_14 (by rw [c_11]; decide) (by rw [c_11]; decide) (by rw [c_11]; decide) (by decide) ?_
    refine lv_iload_n hx hb dX2_ofTime_204 rfl (lv_at hl 0 rfl) ?_
    refine lv_bipush (v := (12 : Int32)) hx hb dX2_ofTime_205 (by decide) ?_
    refine lv_irem hx hb dX2_ofTime_207 (by decide) ?_
    refine lv_i2l (v := (((fX2_part T p0 (fX2_nanosOf (5 : Int32)) (24 : Int64)) - (fX2_part T p0 (fX2_nanosOf (5 : Int32)) (24 : Int64)) / (12 : Int32) * (12 : Int32)).toInt64)) hx hb dX2_ofTime_208 (by first | rfl | decide) ?_
    exact re_l hx hb hr hk dX2_ofTime_209 (el (Eq.trans (if_neg c_1) (Eq.trans (if_neg c_2) (Eq.trans (if_neg c_3) (Eq.trans (if_neg c_4) (Eq.trans (if_neg c_5) (Eq.trans (if_neg c_6) (Eq.trans (if_neg c_7) (Eq.trans (if_neg c_8) (Eq.trans (if_neg c_9) (Eq.trans (if_neg c_10) (if_pos c_11))))))))))))
  by_cases c_12 : p1 = (11 : Int32)
  · refine lv_tableIn (tgt := 210) (off := 196) hx hb dX2_ofTime_14 (by rw [c_12]; decide) (by rw [c_12]; decide) (by rw [c_12]; decide) (by decide) ?_
    refine lv_iload_n hx hb dX2_ofTime_210 rfl (lv_at hl 0 rfl) ?_
    refine lv_bipush (v := (12 : Int32)) hx hb dX2_ofTime_211 (by decide) ?_
    refine lv_irem hx hb dX2_ofTime_213 (by decide) ?_
    refine lv_if_ne (tgt := 223) hx hb dX2_ofTime_214 (by decide) (fun c_13 => ?_) (fun c_13 => ?_)
    · refine lv_iload_n hx hb dX2_ofTime_223 rfl (lv_at hl 0 rfl) ?_
      refine lv_bipush (v := (12 : Int32)) hx hb dX2_ofTime_224 (by decide) ?_
      refine lv_irem hx hb dX2_ofTime_226 (by decide) ?_
      refine lv_i2l (v := (((fX2_part T p0 (fX2_nanosOf (5 : Int32)) (24 : Int64)) - (fX2_part T p0 (fX2_nanosOf (5 : Int32)) (24 : Int64)) / (12 : Int32) * (12 : Int32)).toInt64)) hx hb dX2_ofTime_227 (by first | rfl | decide) ?_
      exact re_l hx hb hr hk dX2_ofTime_228 (el (Eq.trans (if_neg c_1) (Eq.trans (if_neg c_2) (Eq.trans (if_neg c_3) (Eq.trans (if_neg c_4) (Eq.trans (if_neg c_5) (Eq.trans (if_neg c_6) (Eq.trans (if_neg c_7) (Eq.trans (if_neg c_8) (Eq.trans (if_neg c_9) (Eq.trans (if_neg c_10) (Eq.trans (if_neg c_11) (Eq.trans (if_pos c_12) (if_neg c_13))))))))))))))
    · refine lv_ldc2 (v := (12 : Int64)) hx hb hown (hw _ bw1368) dX2_ofTime_217 ?_
      refine lv_goto (tgt := 228) hx hb dX2_ofTime_220 (by decide) ?_
      exact re_l hx hb hr hk dX2_ofTime_228 (el (Eq.trans (if_neg c_1) (Eq.trans (if_neg c_2) (Eq.trans (if_neg c_3) (Eq.trans (if_neg c_4) (Eq.trans (if_neg c_5) (Eq.trans (if_neg c_6) (Eq.trans (if_neg c_7) (Eq.trans (if_neg c_8) (Eq.trans (if_neg c_9) (Eq.trans (if_neg c_10) (Eq.trans (if_neg c_11) (Eq.trans (if_pos c_12) (if_pos c_13))))))))))))))
  by_cases c_14 : p1 = (12 : Int32)
  · refine lv_tableIn (tgt := 229) (off := 215) hx hb dX2_ofTime_14 (by rw [c_14]; decide) (by rw [c_14]; decide) (by rw [c_14]; decide) (by decide) ?_
    refine lv_iload_n hx hb dX2_ofTime_229 rfl (lv_at hl 0 rfl) ?_
    refine lv_i2l (v := ((fX2_part T p0 (fX2_nanosOf (5 : Int32)) (24 : Int64)).toInt64)) hx hb dX2_ofTime_230 (by first | rfl | decide) ?_
    exact re_l hx hb hr hk dX2_ofTime_231 (el (Eq.trans (if_neg c_1) (Eq.trans (if_neg c_2) (Eq.trans (if_neg c_3) (Eq.trans (if_neg c_4) (Eq.trans (if_neg c_5) (Eq.trans (if_neg c_6) (Eq.trans (if_neg c_7) (Eq.trans (if_neg c_8) (Eq.trans (if_neg c_9) (Eq.trans (if_neg c_10) (Eq.trans (if_neg c_11) (Eq.trans (if_neg c_12) (if_pos c_14))))))))))))))
  by_cases c_15 : p1 = (13 : Int32)
  · refine lv_tableIn (tgt := 232) (off := 218) hx hb dX2_ofTime_14 (by rw [c_15]; decide) (by rw [c_15]; decide) (by rw [c_15]; decide) (by decide) ?_
    refine lv_iload_n hx hb dX2_ofTime_232 rfl (lv_at hl 0 rfl) ?_
    refine lv_if_ne (tgt := 242) hx hb dX2_ofTime_233 (by decide) (fun c_16 => ?_) (fun c_16 => ?_)
    · refine lv_iload_n hx hb dX2_ofTime_242 rfl (lv_at hl 0 rfl) ?_
      refine lv_i2l (v := ((fX2_part T p0 (fX2_nanosOf (5 : Int32)) (24 : Int64)).toInt64)) hx hb dX2_ofTime_243 (by first | rfl | decide) ?_
      exact re_l hx hb hr hk dX2_ofTime_244 (el (Eq.trans (if_neg c_1) (Eq.trans (if_neg c_2) (Eq.trans (if_neg c_3) (Eq.trans (if_neg c_4) (Eq.trans (if_neg c_5) (Eq.trans (if_neg c_6) (Eq.trans (if_neg c_7) (Eq.trans (if_neg c_8) (Eq.trans (if_neg c_9) (Eq.trans (if_neg c_10) (Eq.trans (if_neg c_11) (Eq.trans (if_neg c_12) (Eq.trans (if_neg c_14) (Eq.trans (if_pos c_15) (if_neg c_16))))))))))))))))
    · refine lv_ldc2 (v := (24 : Int64)) hx hb hown (hw _ bw1332) dX2_ofTime_236 ?_
      refine lv_goto (tgt := 244) hx hb dX2_ofTime_239 (by decide) ?_
      exact re_l hx hb hr hk dX2_ofTime_244 (el (Eq.trans (if_neg c_1) (Eq.trans (if_neg c_2) (Eq.trans (if_neg c_3) (Eq.trans (if_neg c_4) (Eq.trans (if_neg c_5) (Eq.trans (if_neg c_6) (Eq.trans (if_neg c_7) (Eq.trans (if_neg c_8) (Eq.trans (if_neg c_9) (Eq.trans (if_neg c_10) (Eq.trans (if_neg c_11) (Eq.trans (if_neg c_12) (Eq.trans (if_neg c_14) (Eq.trans (if_pos c_15) (if_pos c_16))))))))))))))))
  have nc_1 := lv_neT c_1 (a := 0) (by decide)
  have nc_2 := lv_neT c_2 (a := 1) (by decide)
  have nc_3 := lv_neT c_3 (a := 2) (by decide)
  have nc_4 := lv_neT c_4 (a := 3) (by decide)
  have nc_5 := lv_neT c_5 (a := 4) (by decide)
  have nc_6 := lv_neT c_6 (a := 5) (by decide)
  have nc_7 := lv_neT c_7 (a := 6) (by decide)
  have nc_8 := lv_neT c_8 (a := 7) (by decide)
  have nc_9 := lv_neT c_9 (a := 8) (by decide)
  have nc_10 := lv_neT c_10 (a := 9) (by decide)
  have nc_11 := lv_neT c_11 (a := 10) (by decide)
  have nc_12 := lv_neT c_12 (a := 11) (by decide)
  have nc_14 := lv_neT c_14 (a := 12) (by decide)
  have nc_15 := lv_neT c_15 (a := 13) (by decide)
  refine lv_tableOut (tgt := 245) hx hb dX2_ofTime_14 (by omega) (by decide) ?_
  refine lv_iload_n hx hb dX2_ofTime_245 rfl (lv_at hl 0 rfl) ?_
  refine lv_bipush (v := (12 : Int32)) hx hb dX2_ofTime_246 (by decide) ?_
  refine lv_icmp_ge (tgt := 255) hx hb dX2_ofTime_248 (by decide) (fun c_17 => ?_) (fun c_17 => ?_)
  · refine lv_lconst (v := (1 : Int64)) hx hb dX2_ofTime_255 (by decide) ?_
    exact re_l hx hb hr hk dX2_ofTime_256 (el (Eq.trans (if_neg c_1) (Eq.trans (if_neg c_2) (Eq.trans (if_neg c_3) (Eq.trans (if_neg c_4) (Eq.trans (if_neg c_5) (Eq.trans (if_neg c_6) (Eq.trans (if_neg c_7) (Eq.trans (if_neg c_8) (Eq.trans (if_neg c_9) (Eq.trans (if_neg c_10) (Eq.trans (if_neg c_11) (Eq.trans (if_neg c_12) (Eq.trans (if_neg c_14) (Eq.trans (if_neg c_15) (if_pos c_17))))))))))))))))
  · refine lv_lconst (v := (0 : Int64)) hx hb dX2_ofTime_251 (by decide) ?_
    refine lv_goto (tgt := 256) hx hb dX2_ofTime_252 (by decide) ?_
    exact re_l hx hb hr hk dX2_ofTime_256 (el (Eq.trans (if_neg c_1) (Eq.trans (if_neg c_2) (Eq.trans (if_neg c_3) (Eq.trans (if_neg c_4) (Eq.trans (if_neg c_5) (Eq.trans (if_neg c_6) (Eq.trans (if_neg c_7) (Eq.trans (if_neg c_8) (Eq.trans (if_neg c_9) (Eq.trans (if_neg c_10) (Eq.trans (if_neg c_11) (Eq.trans (if_neg c_12) (Eq.trans (if_neg c_14) (Eq.trans (if_neg c_15) (if_neg c_17))))))))))))))))

