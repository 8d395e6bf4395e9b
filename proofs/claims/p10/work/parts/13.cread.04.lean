set_option maxRecDepth 100000 in
set_option maxHeartbeats 4000000 in
theorem c_X0_houseNumber (l : Launch) (G : GT) (a : Nat → Nat) (S : SX) (p0 : Int32) : RO l G yX0_houseNumber cX0_houseNumber 2 (some .int) 4 [.ref (a 0), .int p0] (wX G a S) (some (.int (fX0_houseNumber S p0))) := by
  refine RO.ofW (own := RX0) rfl (by decide +kernel) (Nat.le_of_ble_eq_true rfl) ?_
  intro p e s m below meth c C hr hk hE hP ls hl
  have hx := C.1
  have hb := C.2.1
  have hown := C.2.2.2.1
  have hw := C.2.2.2.2
  have hl : lv_has ls 2 [(0, .ref (a 0)), (1, .int p0)] := hl
  refine lv_iload_n hx hb dX0_houseNumber_0 rfl (lv_at hl 1 rfl) ?_
  by_cases c_1 : p0 = (0 : Int32)
  · refine lv_tableIn (tgt := 36) (off := 35) hx hb dX0_houseNumber_1 (by rw [c_1]; decide) (by rw [c_1]; decide) (by rw [c_1]; decide) (by decide) ?_
    refine lv_aload_n hx hb dX0_houseNumber_36 rfl (lv_at hl 0 rfl) ?_
    refine va_get (D := gD G) (cl := vwCl) (tys := gT G) (ci := 2) (v := .int (xi S 4)) (C := RX0) (T := TX0) (N := 12) hx hb hw inB_X0 hown hE.K hP 0 rfl rfl 9 (by decide) (hw _ bw103) (fun _ h9 => h9) rfl dX0_houseNumber_37 ?_
    exact re_i hx hb hr hk dX0_houseNumber_40 (ei (if_pos c_1))
  by_cases c_2 : p0 = (1 : Int32)
  · refine lv_tableIn (tgt := 41) (off := 40) hx hb dX0_houseNumber_1 (by rw [c_2]; decide) (by rw [c_2]; decide) (by rw [c_2]; decide) (by decide) ?_
    refine lv_aload_n hx hb dX0_houseNumber_41 rfl (lv_at hl 0 rfl) ?_
    refine va_get (D := gD G) (cl := vwCl) (tys := gT G) (ci := 2) (v := .int (xi S 5)) (C := RX0) (T := TX0) (N := 12) hx hb hw inB_X0 hown hE.K hP 0 rfl rfl 10 (by decide) (hw _ bw104) (fun _ h9 => h9) rfl dX0_houseNumber_42 ?_
    exact re_i hx hb hr hk dX0_houseNumber_45 (ei (Eq.trans (if_neg c_1) (if_pos c_2)))
  by_cases c_3 : p0 = (2 : Int32)
  · refine lv_tableIn (tgt := 46) (off := 45) hx hb dX0_houseNumber_1 (by rw [c_3]; decide) (by rw [c_3]; decide) (by rw [c_3]; decide) (by decide) ?_
    refine lv_aload_n hx hb dX0_houseNumber_46 rfl (lv_at hl 0 rfl) ?_
    refine rcVi (as := []) (rest := []) (cl := RX0) C (c_X0_countRepeated l G a S) F_X0_countRepeated rfl bw274 bw276 bw14 hE hP (rv2 hE.K hP (q0 := 0) rfl) hl.1 dX0_houseNumber_47 ⟨Nat.le_of_ble_eq_true rfl, Nat.le_of_ble_eq_true rfl⟩ rfl (Nat.le_of_ble_eq_true rfl) ⟨Nat.zero_le _, Nat.zero_le _⟩ ?_
    exact re_i hx hb hr hk dX0_houseNumber_50 (ei (Eq.trans (if_neg c_1) (Eq.trans (if_neg c_2) (if_pos c_3))))
  by_cases c_4 : p0 = (3 : Int32)
  · refine lv_tableIn (tgt := 51) (off := 50) hx hb dX0_houseNumber_1 (by rw [c_4]; decide) (by rw [c_4]; decide) (by rw [c_4]; decide) (by decide) ?_
    refine lv_aload_n hx hb dX0_houseNumber_51 rfl (lv_at hl 0 rfl) ?_
    refine lv_iconst (v := (-1 : Int32)) hx hb dX0_houseNumber_52 (by decide) ?_
    refine rcVi (as := [.int (-1 : Int32)]) (rest := []) (cl := RX0) C (c_X0_outermost l G a S (-1 : Int32)) F_X0_outermost rfl bw282 bw284 bw16 hE hP (rv2 hE.K hP (q0 := 0) rfl) hl.1 dX0_houseNumber_53 ⟨Nat.le_of_ble_eq_true rfl, Nat.le_of_ble_eq_true rfl⟩ rfl (Nat.le_of_ble_eq_true rfl) ⟨Nat.zero_le _, Nat.zero_le _⟩ ?_
    exact re_i hx hb hr hk dX0_houseNumber_56 (ei (Eq.trans (if_neg c_1) (Eq.trans (if_neg c_2) (Eq.trans (if_neg c_3) (if_pos c_4)))))
  by_cases c_5 : p0 = (4 : Int32)
  · refine lv_tableIn (tgt := 57) (off := 56) hx hb dX0_houseNumber_1 (by rw [c_5]; decide) (by rw [c_5]; decide) (by rw [c_5]; decide) (by decide) ?_
    refine lv_aload_n hx hb dX0_houseNumber_57 rfl (lv_at hl 0 rfl) ?_
    refine lv_iconst (v := (1 : Int32)) hx hb dX0_houseNumber_58 (by decide) ?_
    refine rcVi (as := [.int (1 : Int32)]) (rest := []) (cl := RX0) C (c_X0_outermost l G a S (1 : Int32)) F_X0_outermost rfl bw282 bw284 bw16 hE hP (rv2 hE.K hP (q0 := 0) rfl) hl.1 dX0_houseNumber_59 ⟨Nat.le_of_ble_eq_true rfl, Nat.le_of_ble_eq_true rfl⟩ rfl (Nat.le_of_ble_eq_true rfl) ⟨Nat.zero_le _, Nat.zero_le _⟩ ?_
    exact re_i hx hb hr hk dX0_houseNumber_62 (ei (Eq.trans (if_neg c_1) (Eq.trans (if_neg c_2) (Eq.trans (if_neg c_3) (Eq.trans (if_neg c_4) (if_pos c_5))))))
  have nc_1 := lv_neT c_1 (a := 0) (by decide)
  have nc_2 := lv_neT c_2 (a := 1) (by decide)
  have nc_3 := lv_neT c_3 (a := 2) (by decide)
  have nc_4 := lv_neT c_4 (a := 3) (by decide)
  have nc_5 := lv_neT c_5 (a := 4) (by decide)
  refine lv_tableOut (tgt := 63) hx hb dX0_houseNumber_1 (by omega) (by decide) ?_
  refine lv_aload_n hx hb dX0_houseNumber_63 rfl (lv_at hl 0 rfl) ?_
  refine va_get (D := gD G) (cl := vwCl) (tys := gT G) (ci := 2) (v := .int (xi S 6)) (C := RX0) (T := TX0) (N := 12) hx hb hw inB_X0 hown hE.K hP 0 rfl rfl 11 (by decide) (hw _ bw105) (fun _ h9 => h9) rfl dX0_houseNumber_64 ?_
  exact re_i hx hb hr hk dX0_houseNumber_67 (ei (Eq.trans (if_neg c_1) (Eq.trans (if_neg c_2) (Eq.trans (if_neg c_3) (Eq.trans (if_neg c_4) (if_neg c_5))))))

set_option maxRecDepth 100000 in
set_option maxHeartbeats 4000000 in
theorem c_X0_mixMoment (l : Launch) (G : GT) (a : Nat → Nat) (S : SX) (p0 : Int64) (p1 : Int32) (h1 : vp_in p1 6) : RO l G yX0_mixMoment cX0_mixMoment 8 (some .long) 4 [.ref (a 0), .long p0, .int p1] (wX G a S) (some (.long (fX0_mixMoment S p0 p1))) := by
  refine RO.ofW (own := RX0) rfl (by decide +kernel) (Nat.le_of_ble_eq_true rfl) ?_
  intro p e s m below meth c C hr hk hE hP ls hl
  have hx := C.1
  have hb := C.2.1
  have hown := C.2.2.2.1
  have hw := C.2.2.2.2
  have hl : lv_has ls 8 [(0, .ref (a 0)), (1, .long p0), (3, .int p1)] := hl
  refine lv_aload_n hx hb dX0_mixMoment_0 rfl (lv_at hl 0 rfl) ?_
  refine va_get (D := gD G) (cl := vwCl) (tys := gT G) (ci := 2) (v := .ref (a 5)) (C := RX0) (T := TX0) (N := 12) hx hb hw inB_X0 hown hE.K hP 0 rfl rfl 4 (by decide) (hw _ bw98) (fun _ h9 => h9) rfl dX0_mixMoment_1 ?_
  refine lv_iload_n hx hb dX0_mixMoment_4 rfl (lv_at hl 2 rfl) ?_
  refine va_lald (tys := gT G) hx hb hE.K hP 5 1 rfl rfl h1 dX0_mixMoment_5 ?_
  refine lv_lstore (lv' := [(4, .long (xN S p1.toNatClampNeg)), (0, .ref (a 0)), (1, .long p0), (3, .int p1)]) hx hb dX0_mixMoment_6 hl (Nat.le_of_ble_eq_true rfl) rfl (fun ls hl => ?_)
  refine lv_lload_n hx hb dX0_mixMoment_8 rfl (lv_at hl 2 rfl) ?_
  refine lv_aload_n hx hb dX0_mixMoment_9 rfl (lv_at hl 1 rfl) ?_
  refine va_get (D := gD G) (cl := vwCl) (tys := gT G) (ci := 2) (v := .ref (a 1)) (C := RX0) (T := TX0) (N := 12) hx hb hw inB_X0 hown hE.K hP 0 rfl rfl 0 (by decide) (hw _ bw94) (fun _ h9 => h9) rfl dX0_mixMoment_10 ?_
  refine lv_iload_n hx hb dX0_mixMoment_13 rfl (lv_at hl 3 rfl) ?_
  refine va_iald (tys := gT G) hx hb hE.K hP 1 0 rfl rfl h1 dX0_mixMoment_14 ?_
  refine lv_i2l (v := ((xy S p1.toNatClampNeg).toInt64)) hx hb dX0_mixMoment_15 (by first | rfl | decide) ?_
  refine rcSl (as := [.long p0, .long ((xy S p1.toNatClampNeg).toInt64)]) (rest := []) C (c_X0_mix l G p0 ((xy S p1.toNatClampNeg).toInt64)) F_X0_mix rfl bw258 bw259 hE vpn hl.1 dX0_mixMoment_16 ⟨Nat.le_of_ble_eq_true rfl, Nat.le_of_ble_eq_true rfl⟩ rfl (Nat.le_of_ble_eq_true rfl) ⟨Nat.zero_le _, Nat.zero_le _⟩ ?_
  refine lv_lstore (lv' := [(6, .long (fX0_mix p0 ((xy S p1.toNatClampNeg).toInt64))), (4, .long (xN S p1.toNatClampNeg)), (0, .ref (a 0)), (1, .long p0), (3, .int p1)]) hx hb dX0_mixMoment_19 hl (Nat.le_of_ble_eq_true rfl) rfl (fun ls hl => ?_)
  refine lv_lload hx hb dX0_mixMoment_21 (lv_at hl 0 rfl) ?_
  refine lv_aload_n hx hb dX0_mixMoment_23 rfl (lv_at hl 2 rfl) ?_
  refine va_get (D := gD G) (cl := vwCl) (tys := gT G) (ci := 2) (v := .ref (a 2)) (C := RX0) (T := TX0) (N := 12) hx hb hw inB_X0 hown hE.K hP 0 rfl rfl 1 (by decide) (hw _ bw95) (fun _ h9 => h9) rfl dX0_mixMoment_24 ?_
  refine lv_iload_n hx hb dX0_mixMoment_27 rfl (lv_at hl 4 rfl) ?_
  refine va_iald (tys := gT G) hx hb hE.K hP 2 0 rfl rfl h1 dX0_mixMoment_28 ?_
  refine lv_i2l (v := ((xm S p1.toNatClampNeg).toInt64)) hx hb dX0_mixMoment_29 (by first | rfl | decide) ?_
  refine rcSl (as := [.long (fX0_mix p0 ((xy S p1.toNatClampNeg).toInt64)), .long ((xm S p1.toNatClampNeg).toInt64)]) (rest := []) C (c_X0_mix l G (fX0_mix p0 ((xy S p1.toNatClampNeg).toInt64)) ((xm S p1.toNatClampNeg).toInt64)) F_X0_mix rfl bw258 bw259 hE vpn hl.1 dX0_mixMoment_30 ⟨Nat.le_of_ble_eq_true rfl, Nat.le_of_ble_eq_true rfl⟩ rfl (Nat.le_of_ble_eq_true rfl) ⟨Nat.zero_le _, Nat.zero_le _⟩ ?_
  refine lv_lstore (lv' := [(6, .long (fX0_mix (fX0_mix p0 ((xy S p1.toNatClampNeg).toInt64)) ((xm S p1.toNatClampNeg).toInt64))), (4, .long (xN S p1.toNatClampNeg)), (0, .ref (a 0)), (1, .long p0), (3, .int p1)]) hx hb dX0_mixMoment_33 hl (Nat.le_of_ble_eq_true rfl) rfl (fun ls hl => ?_)
  refine lv_lload hx hb dX0_mixMoment_35 (lv_at hl 0 rfl) ?_
  refine lv_aload_n hx hb dX0_mixMoment_37 rfl (lv_at hl 2 rfl) ?_
  refine va_get (D := gD G) (cl := vwCl) (tys := gT G) (ci := 2) (v := .ref (a 3)) (C := RX0) (T := TX0) (N := 12) hx hb hw inB_X0 hown hE.K hP 0 rfl rfl 2 (by decide) (hw _ bw96) (fun _ h9 => h9) rfl dX0_mixMoment_38 ?_
  refine lv_iload_n hx hb dX0_mixMoment_41 rfl (lv_at hl 4 rfl) ?_
  refine va_iald (tys := gT G) hx hb hE.K hP 3 0 rfl rfl h1 dX0_mixMoment_42 ?_
  refine lv_i2l (v := ((xd S p1.toNatClampNeg).toInt64)) hx hb dX0_mixMoment_43 (by first | rfl | decide) ?_
  refine rcSl (as := [.long (fX0_mix (fX0_mix p0 ((xy S p1.toNatClampNeg).toInt64)) ((xm S p1.toNatClampNeg).toInt64)), .long ((xd S p1.toNatClampNeg).toInt64)]) (rest := []) C (c_X0_mix l G (fX0_mix (fX0_mix p0 ((xy S p1.toNatClampNeg).toInt64)) ((xm S p1.toNatClampNeg).toInt64)) ((xd S p1.toNatClampNeg).toInt64)) F_X0_mix rfl bw258 bw259 hE vpn hl.1 dX0_mixMoment_44 ⟨Nat.le_of_ble_eq_true rfl, Nat.le_of_ble_eq_true rfl⟩ rfl (Nat.le_of_ble_eq_true rfl) ⟨Nat.zero_le _, Nat.zero_le _⟩ ?_
  refine lv_lstore (lv' := [(6, .long (fX0_mix (fX0_mix (fX0_mix p0 ((xy S p1.toNatClampNeg).toInt64)) ((xm S p1.toNatClampNeg).toInt64)) ((xd S p1.toNatClampNeg).toInt64))), (4, .long (xN S p1.toNatClampNeg)), (0, .ref (a 0)), (1, .long p0), (3, .int p1)]) hx hb dX0_mixMoment_47 hl (Nat.le_of_ble_eq_true rfl) rfl (fun ls hl => ?_)
  refine lv_lload hx hb dX0_mixMoment_49 (lv_at hl 0 rfl) ?_
  refine lv_aload_n hx hb dX0_mixMoment_51 rfl (lv_at hl 2 rfl) ?_
  refine lv_iload_n hx hb dX0_mixMoment_52 rfl (lv_at hl 4 rfl) ?_
  refine rcVi (as := [.int p1]) (rest := [.long (fX0_mix (fX0_mix (fX0_mix p0 ((xy S p1.toNatClampNeg).toInt64)) ((xm S p1.toNatClampNeg).toInt64)) ((xd S p1.toNatClampNeg).toInt64))]) (cl := RX0) C (c_X0_yearDay l G a S p1 h1) F_X0_yearDay rfl bw182 bw184 bw3 hE hP (rv2 hE.K hP (q0 := 0) rfl) hl.1 dX0_mixMoment_53 ⟨Nat.le_of_ble_eq_true rfl, Nat.le_of_ble_eq_true rfl⟩ rfl (Nat.le_of_ble_eq_true rfl) ⟨Nat.zero_le _, Nat.zero_le _⟩ ?_
  refine lv_i2l (v := ((fX0_yearDay S p1).toInt64)) hx hb dX0_mixMoment_56 (by first | rfl | decide) ?_
  refine rcSl (as := [.long (fX0_mix (fX0_mix (fX0_mix p0 ((xy S p1.toNatClampNeg).toInt64)) ((xm S p1.toNatClampNeg).toInt64)) ((xd S p1.toNatClampNeg).toInt64)), .long ((fX0_yearDay S p1).toInt64)]) (rest := []) C (c_X0_mix l G (fX0_mix (fX0_mix (fX0_mix p0 ((xy S p1.toNatClampNeg).toInt64)) ((xm S p1.toNatClampNeg).toInt64)) ((xd S p1.toNatClampNeg).toInt64)) ((fX0_yearDay S p1).toInt64)) F_X0_mix rfl bw258 bw259 hE vpn hl.1 dX0_mixMoment_57 ⟨Nat.le_of_ble_eq_true rfl, Nat.le_of_ble_eq_true rfl⟩ rfl (Nat.le_of_ble_eq_true rfl) ⟨Nat.zero_le _, Nat.zero_le _⟩ ?_
  refine lv_lstore (lv' := [(6, .long (fX0_mix (fX0_mix (fX0_mix (fX0_mix p0 ((xy S p1.toNatClampNeg).toInt64)) ((xm S p1.toNatClampNeg).toInt64)) ((xd S p1.toNatClampNeg).toInt64)) ((fX0_yearDay S p1).toInt64))), (4, .long (xN S p1.toNatClampNeg)), (0, .ref (a 0)), (1, .long p0), (3, .int p1)]) hx hb dX0_mixMoment_60 hl (Nat.le_of_ble_eq_true rfl) rfl (fun ls hl => ?_)
  refine lv_lload hx hb dX0_mixMoment_62 (lv_at hl 0 rfl) ?_
  refine lv_aload_n hx hb dX0_mixMoment_64 rfl (lv_at hl 2 rfl) ?_
  refine va_get (D := gD G) (cl := vwCl) (tys := gT G) (ci := 2) (v := .ref (a 4)) (C := RX0) (T := TX0) (N := 12) hx hb hw inB_X0 hown hE.K hP 0 rfl rfl 3 (by decide) (hw _ bw97) (fun _ h9 => h9) rfl dX0_mixMoment_65 ?_
  refine lv_iload_n hx hb dX0_mixMoment_68 rfl (lv_at hl 4 rfl) ?_
  refine va_lald (tys := gT G) hx hb hE.K hP 4 1 rfl rfl h1 dX0_mixMoment_69 ?_
  refine rcSi (as := [.long (xD S p1.toNatClampNeg)]) (rest := [.long (fX0_mix (fX0_mix (fX0_mix (fX0_mix p0 ((xy S p1.toNatClampNeg).toInt64)) ((xm S p1.toNatClampNeg).toInt64)) ((xd S p1.toNatClampNeg).toInt64)) ((fX0_yearDay S p1).toInt64))]) C (c_X0_weekday l G (xD S p1.toNatClampNeg)) F_X0_weekday rfl bw262 bw263 hE vpn hl.1 dX0_mixMoment_70 ⟨Nat.le_of_ble_eq_true rfl, Nat.le_of_ble_eq_true rfl⟩ rfl (Nat.le_of_ble_eq_true rfl) ⟨Nat.zero_le _, Nat.zero_le _⟩ ?_
  refine lv_i2l (v := ((fX0_weekday (xD S p1.toNatClampNeg)).toInt64)) hx hb dX0_mixMoment_73 (by first | rfl | decide) ?_
  refine rcSl (as := [.long (fX0_mix (fX0_mix (fX0_mix (fX0_mix p0 ((xy S p1.toNatClampNeg).toInt64)) ((xm S p1.toNatClampNeg).toInt64)) ((xd S p1.toNatClampNeg).toInt64)) ((fX0_yearDay S p1).toInt64)), .long ((fX0_weekday (xD S p1.toNatClampNeg)).toInt64)]) (rest := []) C (c_X0_mix l G (fX0_mix (fX0_mix (fX0_mix (fX0_mix p0 ((xy S p1.toNatClampNeg).toInt64)) ((xm S p1.toNatClampNeg).toInt64)) ((xd S p1.toNatClampNeg).toInt64)) ((fX0_yearDay S p1).toInt64)) ((fX0_weekday (xD S p1.toNatClampNeg)).toInt64)) F_X0_mix rfl bw258 bw259 hE vpn hl.1 dX0_mixMoment_74 ⟨Nat.le_of_ble_eq_true rfl, Nat.le_of_ble_eq_true rfl⟩ rfl (Nat.le_of_ble_eq_true rfl) ⟨Nat.zero_le _, Nat.zero_le _⟩ ?_
  refine lv_lstore (lv' := [(6, .long (fX0_mix (fX0_mix (fX0_mix (fX0_mix (fX0_mix p0 ((xy S p1.toNatClampNeg).toInt64)) ((xm S p1.toNatClampNeg).toInt64)) ((xd S p1.toNatClampNeg).toInt64)) ((fX0_yearDay S p1).toInt64)) ((fX0_weekday (xD S p1.toNatClampNeg)).toInt64))), (4, .long (xN S p1.toNatClampNeg)), (0, .ref (a 0)), (1, .long p0), (3, .int p1)]) hx hb dX0_mixMoment_77 hl (Nat.le_of_ble_eq_true rfl) rfl (fun ls hl => ?_)
  refine lv_lload hx hb dX0_mixMoment_79 (lv_at hl 0 rfl) ?_
  refine lv_lload hx hb dX0_mixMoment_81 (lv_at hl 1 rfl) ?_
  refine rcSi (as := [.long (xN S p1.toNatClampNeg)]) (rest := [.long (fX0_mix (fX0_mix (fX0_mix (fX0_mix (fX0_mix p0 ((xy S p1.toNatClampNeg).toInt64)) ((xm S p1.toNatClampNeg).toInt64)) ((xd S p1.toNatClampNeg).toInt64)) ((fX0_yearDay S p1).toInt64)) ((fX0_weekday (xD S p1.toNatClampNeg)).toInt64))]) C (c_X0_hourOf l G (xN S p1.toNatClampNeg)) F_X0_hourOf rfl bw149 bw150 hE vpn hl.1 dX0_mixMoment_83 ⟨Nat.le_of_ble_eq_true rfl, Nat.le_of_ble_eq_true rfl⟩ rfl (Nat.le_of_ble_eq_true rfl) ⟨Nat.zero_le _, Nat.zero_le _⟩ ?_
  refine lv_i2l (v := ((fX0_hourOf (xN S p1.toNatClampNeg)).toInt64)) hx hb dX0_mixMoment_86 (by first | rfl | decide) ?_
  refine rcSl (as := [.long (fX0_mix (fX0_mix (fX0_mix (fX0_mix (fX0_mix p0 ((xy S p1.toNatClampNeg).toInt64)) ((xm S p1.toNatClampNeg).toInt64)) ((xd S p1.toNatClampNeg).toInt64)) ((fX0_yearDay S p1).toInt64)) ((fX0_weekday (xD S p1.toNatClampNeg)).toInt64)), .long ((fX0_hourOf (xN S p1.toNatClampNeg)).toInt64)]) (rest := []) C (c_X0_mix l G (fX0_mix (fX0_mix (fX0_mix (fX0_mix (fX0_mix p0 ((xy S p1.toNatClampNeg).toInt64)) ((xm S p1.toNatClampNeg).toInt64)) ((xd S p1.toNatClampNeg).toInt64)) ((fX0_yearDay S p1).toInt64)) ((fX0_weekday (xD S p1.toNatClampNeg)).toInt64)) ((fX0_hourOf (xN S p1.toNatClampNeg)).toInt64)) F_X0_mix rfl bw258 bw259 hE vpn hl.1 dX0_mixMoment_87 ⟨Nat.le_of_ble_eq_true rfl, Nat.le_of_ble_eq_true rfl⟩ rfl (Nat.le_of_ble_eq_true rfl) ⟨Nat.zero_le _, Nat.zero_le _⟩ ?_
  refine lv_lstore (lv' := [(6, .long (fX0_mix (fX0_mix (fX0_mix (fX0_mix (fX0_mix (fX0_mix p0 ((xy S p1.toNatClampNeg).toInt64)) ((xm S p1.toNatClampNeg).toInt64)) ((xd S p1.toNatClampNeg).toInt64)) ((fX0_yearDay S p1).toInt64)) ((fX0_weekday (xD S p1.toNatClampNeg)).toInt64)) ((fX0_hourOf (xN S p1.toNatClampNeg)).toInt64))), (4, .long (xN S p1.toNatClampNeg)), (0, .ref (a 0)), (1, .long p0), (3, .int p1)]) hx hb dX0_mixMoment_90 hl (Nat.le_of_ble_eq_true rfl) rfl (fun ls hl => ?_)
  refine lv_lload hx hb dX0_mixMoment_92 (lv_at hl 0 rfl) ?_
  refine lv_lload hx hb dX0_mixMoment_94 (lv_at hl 1 rfl) ?_
  refine rcSi (as := [.long (xN S p1.toNatClampNeg)]) (rest := [.long (fX0_mix (fX0_mix (fX0_mix (fX0_mix (fX0_mix (fX0_mix p0 ((xy S p1.toNatClampNeg).toInt64)) ((xm S p1.toNatClampNeg).toInt64)) ((xd S p1.toNatClampNeg).toInt64)) ((fX0_yearDay S p1).toInt64)) ((fX0_weekday (xD S p1.toNatClampNeg)).toInt64)) ((fX0_hourOf (xN S p1.toNatClampNeg)).toInt64))]) C (c_X0_minuteOf l G (xN S p1.toNatClampNeg)) F_X0_minuteOf rfl bw153 bw154 hE vpn hl.1 dX0_mixMoment_96 ⟨Nat.le_of_ble_eq_true rfl, Nat.le_of_ble_eq_true rfl⟩ rfl (Nat.le_of_ble_eq_true rfl) ⟨Nat.zero_le _, Nat.zero_le _⟩ ?_
  refine lv_i2l (v := ((fX0_minuteOf (xN S p1.toNatClampNeg)).toInt64)) hx hb dX0_mixMoment_99 (by first | rfl | decide) ?_
  refine rcSl (as := [.long (fX0_mix (fX0_mix (fX0_mix (fX0_mix (fX0_mix (fX0_mix p0 ((xy S p1.toNatClampNeg).toInt64)) ((xm S p1.toNatClampNeg).toInt64)) ((xd S p1.toNatClampNeg).toInt64)) ((fX0_yearDay S p1).toInt64)) ((fX0_weekday (xD S p1.toNatClampNeg)).toInt64)) ((fX0_hourOf (xN S p1.toNatClampNeg)).toInt64)), .long ((fX0_minuteOf (xN S p1.toNatClampNeg)).toInt64)]) (rest := []) C (c_X0_mix l G (fX0_mix (fX0_mix (fX0_mix (fX0_mix (fX0_mix (fX0_mix p0 ((xy S p1.toNatClampNeg).toInt64)) ((xm S p1.toNatClampNeg).toInt64)) ((xd S p1.toNatClampNeg).toInt64)) ((fX0_yearDay S p1).toInt64)) ((fX0_weekday (xD S p1.toNatClampNeg)).toInt64)) ((fX0_hourOf (xN S p1.toNatClampNeg)).toInt64)) ((fX0_minuteOf (xN S p1.toNatClampNeg)).toInt64)) F_X0_mix rfl bw258 bw259 hE vpn hl.1 dX0_mixMoment_100 ⟨Nat.le_of_ble_eq_true rfl, Nat.le_of_ble_eq_true rfl⟩ rfl (Nat.le_of_ble_eq_true rfl) ⟨Nat.zero_le _, Nat.zero_le _⟩ ?_
  refine lv_lstore (lv' := [(6, .long (fX0_mix (fX0_mix (fX0_mix (fX0_mix (fX0_mix (fX0_mix (fX0_mix p0 ((xy S p1.toNatClampNeg).toInt64)) ((xm S p1.toNatClampNeg).toInt64)) ((xd S p1.toNatClampNeg).toInt64)) ((fX0_yearDay S p1).toInt64)) ((fX0_weekday (xD S p1.toNatClampNeg)).toInt64)) ((fX0_hourOf (xN S p1.toNatClampNeg)).toInt64)) ((fX0_minuteOf (xN S p1.toNatClampNeg)).toInt64))), (4, .long (xN S p1.toNatClampNeg)), (0, .ref (a 0)), (1, .long p0), (3, .int p1)]) hx hb dX0_mixMoment_103 hl (Nat.le_of_ble_eq_true rfl) rfl (fun ls hl => ?_)
  refine lv_lload hx hb dX0_mixMoment_105 (lv_at hl 0 rfl) ?_
  refine lv_lload hx hb dX0_mixMoment_107 (lv_at hl 1 rfl) ?_
  refine rcSi (as := [.long (xN S p1.toNatClampNeg)]) (rest := [.long (fX0_mix (fX0_mix (fX0_mix (fX0_mix (fX0_mix (fX0_mix (fX0_mix p0 ((xy S p1.toNatClampNeg).toInt64)) ((xm S p1.toNatClampNeg).toInt64)) ((xd S p1.toNatClampNeg).toInt64)) ((fX0_yearDay S p1).toInt64)) ((fX0_weekday (xD S p1.toNatClampNeg)).toInt64)) ((fX0_hourOf (xN S p1.toNatClampNeg)).toInt64)) ((fX0_minuteOf (xN S p1.toNatClampNeg)).toInt64))]) C (c_X0_secondOf l G (xN S p1.toNatClampNeg)) F_X0_secondOf rfl bw157 bw158 hE vpn hl.1 dX0_mixMoment_109 ⟨Nat.le_of_ble_eq_true rfl, Nat.le_of_ble_eq_true rfl⟩ rfl (Nat.le_of_ble_eq_true rfl) ⟨Nat.zero_le _, Nat.zero_le _⟩ ?_
  refine lv_i2l (v := ((fX0_secondOf (xN S p1.toNatClampNeg)).toInt64)) hx hb dX0_mixMoment_112 (by first | rfl | decide) ?_
  refine rcSl (as := [.long (fX0_mix (fX0_mix (fX0_mix (fX0_mix (fX0_mix (fX0_mix (fX0_mix p0 ((xy S p1.toNatClampNeg).toInt64)) ((xm S p1.toNatClampNeg).toInt64)) ((xd S p1.toNatClampNeg).toInt64)) ((fX0_yearDay S p1).toInt64)) ((fX0_weekday (xD S p1.toNatClampNeg)).toInt64)) ((fX0_hourOf (xN S p1.toNatClampNeg)).toInt64)) ((fX0_minuteOf (xN S p1.toNatClampNeg)).toInt64)), .long ((fX0_secondOf (xN S p1.toNatClampNeg)).toInt64)]) (rest := []) C (c_X0_mix l G (fX0_mix (fX0_mix (fX0_mix (fX0_mix (fX0_mix (fX0_mix (fX0_mix p0 ((xy S p1.toNatClampNeg).toInt64)) ((xm S p1.toNatClampNeg).toInt64)) ((xd S p1.toNatClampNeg).toInt64)) ((fX0_yearDay S p1).toInt64)) ((fX0_weekday (xD S p1.toNatClampNeg)).toInt64)) ((fX0_hourOf (xN S p1.toNatClampNeg)).toInt64)) ((fX0_minuteOf (xN S p1.toNatClampNeg)).toInt64)) ((fX0_secondOf (xN S p1.toNatClampNeg)).toInt64)) F_X0_mix rfl bw258 bw259 hE vpn hl.1 dX0_mixMoment_113 ⟨Nat.le_of_ble_eq_true rfl, Nat.le_of_ble_eq_true rfl⟩ rfl (Nat.le_of_ble_eq_true rfl) ⟨Nat.zero_le _, Nat.zero_le _⟩ ?_
  refine lv_lstore (lv' := [(6, .long (fX0_mix (fX0_mix (fX0_mix (fX0_mix (fX0_mix (fX0_mix (fX0_mix (fX0_mix p0 ((xy S p1.toNatClampNeg).toInt64)) ((xm S p1.toNatClampNeg).toInt64)) ((xd S p1.toNatClampNeg).toInt64)) ((fX0_yearDay S p1).toInt64)) ((fX0_weekday (xD S p1.toNatClampNeg)).toInt64)) ((fX0_hourOf (xN S p1.toNatClampNeg)).toInt64)) ((fX0_minuteOf (xN S p1.toNatClampNeg)).toInt64)) ((fX0_secondOf (xN S p1.toNatClampNeg)).toInt64))), (4, .long (xN S p1.toNatClampNeg)), (0, .ref (a 0)), (1, .long p0), (3, .int p1)]) hx hb dX0_mixMoment_116 hl (Nat.le_of_ble_eq_true rfl) rfl (fun ls hl => ?_)
  refine lv_lload hx hb dX0_mixMoment_118 (lv_at hl 0 rfl) ?_
  refine lv_lload hx hb dX0_mixMoment_120 (lv_at hl 1 rfl) ?_
  refine rcSi (as := [.long (xN S p1.toNatClampNeg)]) (rest := [.long (fX0_mix (fX0_mix (fX0_mix (fX0_mix (fX0_mix (fX0_mix (fX0_mix (fX0_mix p0 ((xy S p1.toNatClampNeg).toInt64)) ((xm S p1.toNatClampNeg).toInt64)) ((xd S p1.toNatClampNeg).toInt64)) ((fX0_yearDay S p1).toInt64)) ((fX0_weekday (xD S p1.toNatClampNeg)).toInt64)) ((fX0_hourOf (xN S p1.toNatClampNeg)).toInt64)) ((fX0_minuteOf (xN S p1.toNatClampNeg)).toInt64)) ((fX0_secondOf (xN S p1.toNatClampNeg)).toInt64))]) C (c_X0_nanoOfSecond l G (xN S p1.toNatClampNeg)) F_X0_nanoOfSecond rfl bw161 bw162 hE vpn hl.1 dX0_mixMoment_122 ⟨Nat.le_of_ble_eq_true rfl, Nat.le_of_ble_eq_true rfl⟩ rfl (Nat.le_of_ble_eq_true rfl) ⟨Nat.zero_le _, Nat.zero_le _⟩ ?_
  refine lv_i2l (v := ((fX0_nanoOfSecond (xN S p1.toNatClampNeg)).toInt64)) hx hb dX0_mixMoment_125 (by first | rfl | decide) ?_
  refine rcSl (as := [.long (fX0_mix (fX0_mix (fX0_mix (fX0_mix (fX0_mix (fX0_mix (fX0_mix (fX0_mix p0 ((xy S p1.toNatClampNeg).toInt64)) ((xm S p1.toNatClampNeg).toInt64)) ((xd S p1.toNatClampNeg).toInt64)) ((fX0_yearDay S p1).toInt64)) ((fX0_weekday (xD S p1.toNatClampNeg)).toInt64)) ((fX0_hourOf (xN S p1.toNatClampNeg)).toInt64)) ((fX0_minuteOf (xN S p1.toNatClampNeg)).toInt64)) ((fX0_secondOf (xN S p1.toNatClampNeg)).toInt64)), .long ((fX0_nanoOfSecond (xN S p1.toNatClampNeg)).toInt64)]) (rest := []) C (c_X0_mix l G (fX0_mix (fX0_mix (fX0_mix (fX0_mix (fX0_mix (fX0_mix (fX0_mix (fX0_mix p0 ((xy S p1.toNatClampNeg).toInt64)) ((xm S p1.toNatClampNeg).toInt64)) ((xd S p1.toNatClampNeg).toInt64)) ((fX0_yearDay S p1).toInt64)) ((fX0_weekday (xD S p1.toNatClampNeg)).toInt64)) ((fX0_hourOf (xN S p1.toNatClampNeg)).toInt64)) ((fX0_minuteOf (xN S p1.toNatClampNeg)).toInt64)) ((fX0_secondOf (xN S p1.toNatClampNeg)).toInt64)) ((fX0_nanoOfSecond (xN S p1.toNatClampNeg)).toInt64)) F_X0_mix rfl bw258 bw259 hE vpn hl.1 dX0_mixMoment_126 ⟨Nat.le_of_ble_eq_true rfl, Nat.le_of_ble_eq_true rfl⟩ rfl (Nat.le_of_ble_eq_true rfl) ⟨Nat.zero_le _, Nat.zero_le _⟩ ?_
  refine lv_lstore (lv' := [(6, .long (fX0_mix (fX0_mix (fX0_mix (fX0_mix (fX0_mix (fX0_mix (fX0_mix (fX0_mix (fX0_mix p0 ((xy S p1.toNatClampNeg).toInt64)) ((xm S p1.toNatClampNeg).toInt64)) ((xd S p1.toNatClampNeg).toInt64)) ((fX0_yearDay S p1).toInt64)) ((fX0_weekday (xD S p1.toNatClampNeg)).toInt64)) ((fX0_hourOf (xN S p1.toNatClampNeg)).toInt64)) ((fX0_minuteOf (xN S p1.toNatClampNeg)).toInt64)) ((fX0_secondOf (xN S p1.toNatClampNeg)).toInt64)) ((fX0_nanoOfSecond (xN S p1.toNatClampNeg)).toInt64))), (4, .long (xN S p1.toNatClampNeg)), (0, .ref (a 0)), (1, .long p0), (3, .int p1)]) hx hb dX0_mixMoment_129 hl (Nat.le_of_ble_eq_true rfl) rfl (fun ls hl => ?_)
  refine lv_lload hx hb dX0_mixMoment_131 (lv_at hl 0 rfl) ?_
  refine lv_aload_n hx hb dX0_mixMoment_133 rfl (lv_at hl 2 rfl) ?_
  refine va_get (D := gD G) (cl := vwCl) (tys := gT G) (ci := 2) (v := .ref (a 4)) (C := RX0) (T := TX0) (N := 12) hx hb hw inB_X0 hown hE.K hP 0 rfl rfl 3 (by decide) (hw _ bw97) (fun _ h9 => h9) rfl dX0_mixMoment_134 ?_
  refine lv_iload_n hx hb dX0_mixMoment_137 rfl (lv_at hl 4 rfl) ?_
  refine va_lald (tys := gT G) hx hb hE.K hP 4 1 rfl rfl h1 dX0_mixMoment_138 ?_
  refine rcSl (as := [.long (fX0_mix (fX0_mix (fX0_mix (fX0_mix (fX0_mix (fX0_mix (fX0_mix (fX0_mix (fX0_mix p0 ((xy S p1.toNatClampNeg).toInt64)) ((xm S p1.toNatClampNeg).toInt64)) ((xd S p1.toNatClampNeg).toInt64)) ((fX0_yearDay S p1).toInt64)) ((fX0_weekday (xD S p1.toNatClampNeg)).toInt64)) ((fX0_hourOf (xN S p1.toNatClampNeg)).toInt64)) ((fX0_minuteOf (xN S p1.toNatClampNeg)).toInt64)) ((fX0_secondOf (xN S p1.toNatClampNeg)).toInt64)) ((fX0_nanoOfSecond (xN S p1.toNatClampNeg)).toInt64)), .long (xD S p1.toNatClampNeg)]) (rest := []) C (c_X0_mix l G (fX0_mix (fX0_mix (fX0_mix (fX0_mix (fX0_mix (fX0_mix (fX0_mix (fX0_mix (fX0_mix p0 ((xy S p1.toNatClampNeg).toInt64)) ((xm S p1.toNatClampNeg).toInt64)) ((xd S p1.toNatClampNeg).toInt64)) ((fX0_yearDay S p1).toInt64)) ((fX0_weekday (xD S p1.toNatClampNeg)).toInt64)) ((fX0_hourOf (xN S p1.toNatClampNeg)).toInt64)) ((fX0_minuteOf (xN S p1.toNatClampNeg)).toInt64)) ((fX0_secondOf (xN S p1.toNatClampNeg)).toInt64)) ((fX0_nanoOfSecond (xN S p1.toNatClampNeg)).toInt64)) (xD S p1.toNatClampNeg)) F_X0_mix rfl bw258 bw259 hE vpn hl.1 dX0_mixMoment_139 ⟨Nat.le_of_ble_eq_true rfl, Nat.le_of_ble_eq_true rfl⟩ rfl (Nat.le_of_ble_eq_true rfl) ⟨Nat.zero_le _, Nat.zero_le _⟩ ?_
  exact re_l hx hb hr hk dX0_mixMoment_142 (el rfl)

set_option maxRecDepth 100000 in
set_option maxHeartbeats 4000000 in
theorem c_X0_isItsParts (l : Launch) (G : GT) (a : Nat → Nat) (S : SX) (p0 : Int32) (h0 : vp_in p0 6) : RO l G yX0_isItsParts cX0_isItsParts 6 (some .boolean) 4 [.ref (a 0), .int p0] (wX G a S) (some (.int (fX0_isItsParts S p0))) := by
  refine RO.ofW (own := RX0) rfl (by decide +kernel) (Nat.le_of_ble_eq_true rfl) ?_
  intro p e s m below meth c C hr hk hE hP ls hl
  have hx := C.1
  have hb := C.2.1
  have hown := C.2.2.2.1
  have hw := C.2.2.2.2
  have hl : lv_has ls 6 [(0, .ref (a 0)), (1, .int p0)] := hl
  refine lv_aload_n hx hb dX0_isItsParts_0 rfl (lv_at hl 0 rfl) ?_
  refine va_get (D := gD G) (cl := vwCl) (tys := gT G) (ci := 2) (v := .ref (a 5)) (C := RX0) (T := TX0) (N := 12) hx hb hw inB_X0 hown hE.K hP 0 rfl rfl 4 (by decide) (hw _ bw98) (fun _ h9 => h9) rfl dX0_isItsParts_1 ?_
  refine lv_iload_n hx hb dX0_isItsParts_4 rfl (lv_at hl 1 rfl) ?_
  refine va_lald (tys := gT G) hx hb hE.K hP 5 1 rfl rfl h0 dX0_isItsParts_5 ?_
  refine lv_lstore_n (lv' := [(2, .long (xN S p0.toNatClampNeg)), (0, .ref (a 0)), (1, .int p0)]) hx hb dX0_isItsParts_6 rfl hl (Nat.le_of_ble_eq_true rfl) rfl (fun ls hl => ?_)
  refine lv_lload_n hx hb dX0_isItsParts_7 rfl (lv_at hl 0 rfl) ?_
  refine rcSi (as := [.long (xN S p0.toNatClampNeg)]) (rest := []) C (c_X0_hourOf l G (xN S p0.toNatClampNeg)) F_X0_hourOf rfl bw149 bw150 hE vpn hl.1 dX0_isItsParts_8 ⟨Nat.le_of_ble_eq_true rfl, Nat.le_of_ble_eq_true rfl⟩ rfl (Nat.le_of_ble_eq_true rfl) ⟨Nat.zero_le _, Nat.zero_le _⟩ ?_
  refine lv_lload_n hx hb dX0_isItsParts_11 rfl (lv_at hl 0 rfl) ?_
  refine rcSi (as := [.long (xN S p0.toNatClampNeg)]) (rest := [.int (fX0_hourOf (xN S p0.toNatClampNeg))]) C (c_X0_minuteOf l G (xN S p0.toNatClampNeg)) F_X0_minuteOf rfl bw153 bw154 hE vpn hl.1 dX0_isItsParts_12 ⟨Nat.le_of_ble_eq_true rfl, Nat.le_of_ble_eq_true rfl⟩ rfl (Nat.le_of_ble_eq_true rfl) ⟨Nat.zero_le _, Nat.zero_le _⟩ ?_
  refine lv_lload_n hx hb dX0_isItsParts_15 rfl (lv_at hl 0 rfl) ?_
  refine rcSi (as := [.long (xN S p0.toNatClampNeg)]) (rest := [.int (fX0_minuteOf (xN S p0.toNatClampNeg)), .int (fX0_hourOf (xN S p0.toNatClampNeg))]) C (c_X0_secondOf l G (xN S p0.toNatClampNeg)) F_X0_secondOf rfl bw157 bw158 hE vpn hl.1 dX0_isItsParts_16 ⟨Nat.le_of_ble_eq_true rfl, Nat.le_of_ble_eq_true rfl⟩ rfl (Nat.le_of_ble_eq_true rfl) ⟨Nat.zero_le _, Nat.zero_le _⟩ ?_
  refine lv_lload_n hx hb dX0_isItsParts_19 rfl (lv_at hl 0 rfl) ?_
  refine rcSi (as := [.long (xN S p0.toNatClampNeg)]) (rest := [.int (fX0_secondOf (xN S p0.toNatClampNeg)), .int (fX0_minuteOf (xN S p0.toNatClampNeg)), .int (fX0_hourOf (xN S p0.toNatClampNeg))]) C (c_X0_nanoOfSecond l G (xN S p0.toNatClampNeg)) F_X0_nanoOfSecond rfl bw161 bw162 hE vpn hl.1 dX0_isItsParts_20 ⟨Nat.le_of_ble_eq_true rfl, Nat.le_of_ble_eq_true rfl⟩ rfl (Nat.le_of_ble_eq_true rfl) ⟨Nat.zero_le _, Nat.zero_le _⟩ ?_
  refine rcSl (as := [.int (fX0_hourOf (xN S p0.toNatClampNeg)), .int (fX0_minuteOf (xN S p0.toNatClampNeg)), .int (fX0_secondOf (xN S p0.toNatClampNeg)), .int (fX0_nanoOfSecond (xN S p0.toNatClampNeg))]) (rest := []) C (c_X0_timeOf l G (fX0_hourOf (xN S p0.toNatClampNeg)) (fX0_minuteOf (xN S p0.toNatClampNeg)) (fX0_secondOf (xN S p0.toNatClampNeg)) (fX0_nanoOfSecond (xN S p0.toNatClampNeg))) F_X0_timeOf rfl bw164 bw165 hE vpn hl.1 dX0_isItsParts_23 ⟨Nat.le_of_ble_eq_true rfl, Nat.le_of_ble_eq_true rfl⟩ rfl (Nat.le_of_ble_eq_true rfl) ⟨Nat.zero_le _, Nat.zero_le _⟩ ?_
  refine lv_lstore (lv' := [(4, .long (fX0_timeOf (fX0_hourOf (xN S p0.toNatClampNeg)) (fX0_minuteOf (xN S p0.toNatClampNeg)) (fX0_secondOf (xN S p0.toNatClampNeg)) (fX0_nanoOfSecond (xN S p0.toNatClampNeg)))), (2, .long (xN S p0.toNatClampNeg)), (0, .ref (a 0)), (1, .int p0)]) hx hb dX0_isItsParts_26 hl (Nat.le_of_ble_eq_true rfl) rfl (fun ls hl => ?_)
  refine lv_aload_n hx hb dX0_isItsParts_28 rfl (lv_at hl 2 rfl) ?_
  refine va_get (D := gD G) (cl := vwCl) (tys := gT G) (ci := 2) (v := .ref (a 1)) (C := RX0) (T := TX0) (N := 12) hx hb hw inB_X0 hown hE.K hP 0 rfl rfl 0 (by decide) (hw _ bw94) (fun _ h9 => h9) rfl dX0_isItsParts_29 ?_
  refine lv_iload_n hx hb dX0_isItsParts_32 rfl (lv_at hl 3 rfl) ?_
  refine va_iald (tys := gT G) hx hb hE.K hP 1 0 rfl rfl h0 dX0_isItsParts_33 ?_
  refine lv_aload_n hx hb dX0_isItsParts_34 rfl (lv_at hl 2 rfl) ?_
  refine va_get (D := gD G) (cl := vwCl) (tys := gT G) (ci := 2) (v := .ref (a 2)) (C := RX0) (T := TX0) (N := 12) hx hb hw inB_X0 hown hE.K hP 0 rfl rfl 1 (by decide) (hw _ bw95) (fun _ h9 => h9) rfl dX0_isItsParts_35 ?_
  refine lv_iload_n hx hb dX0_isItsParts_38 rfl (lv_at hl 3 rfl) ?_
  refine va_iald (tys := gT G) hx hb hE.K hP 2 0 rfl rfl h0 dX0_isItsParts_39 ?_
  refine lv_aload_n hx hb dX0_isItsParts_40 rfl (lv_at hl 2 rfl) ?_
  refine va_get (D := gD G) (cl := vwCl) (tys := gT G) (ci := 2) (v := .ref (a 3)) (C := RX0) (T := TX0) (N := 12) hx hb hw inB_X0 hown hE.K hP 0 rfl rfl 2 (by decide) (hw _ bw96) (fun _ h9 => h9) rfl dX0_isItsParts_41 ?_
  refine lv_iload_n hx hb dX0_isItsParts_44 rfl (lv_at hl 3 rfl) ?_
  refine va_iald (tys := gT G) hx hb hE.K hP 3 0 rfl rfl h0 dX0_isItsParts_45 ?_
  refine rcSl (as := [.int (xy S p0.toNatClampNeg), .int (xm S p0.toNatClampNeg), .int (xd S p0.toNatClampNeg)]) (rest := []) C (c_X0_dayOf l G (xy S p0.toNatClampNeg) (xm S p0.toNatClampNeg) (xd S p0.toNatClampNeg)) F_X0_dayOf rfl bw167 bw168 hE vpn hl.1 dX0_isItsParts_46 ⟨Nat.le_of_ble_eq_true rfl, Nat.le_of_ble_eq_true rfl⟩ rfl (Nat.le_of_ble_eq_true rfl) ⟨Nat.zero_le _, Nat.zero_le _⟩ ?_
  refine lv_aload_n hx hb dX0_isItsParts_49 rfl (lv_at hl 2 rfl) ?_
  refine va_get (D := gD G) (cl := vwCl) (tys := gT G) (ci := 2) (v := .ref (a 4)) (C := RX0) (T := TX0) (N := 12) hx hb hw inB_X0 hown hE.K hP 0 rfl rfl 3 (by decide) (hw _ bw97) (fun _ h9 => h9) rfl dX0_isItsParts_50 ?_
  refine lv_iload_n hx hb dX0_isItsParts_53 rfl (lv_at hl 3 rfl) ?_
  refine va_lald (tys := gT G) hx hb hE.K hP 4 1 rfl rfl h0 dX0_isItsParts_54 ?_
  refine W.lcmp hx hb dX0_isItsParts_55 ?_
  refine lv_if_ne (tgt := 70) hx hb dX0_isItsParts_56 (by decide) (fun c_1 => ?_) (fun c_1 => ?_)
  · refine lv_iconst (v := (0 : Int32)) hx hb dX0_isItsParts_70 (by decide) ?_
    exact re_z (ty := .boolean) hx hb hr hk (by decide) dX0_isItsParts_71 (ei (if_neg c_1))
  · refine lv_lload hx hb dX0_isItsParts_59 (lv_at hl 0 rfl) ?_
    refine lv_lload_n hx hb dX0_isItsParts_61 rfl (lv_at hl 1 rfl) ?_
    refine W.lcmp hx hb dX0_isItsParts_62 ?_
    refine lv_if_ne (tgt := 70) hx hb dX0_isItsParts_63 (by decide) (fun c_2 => ?_) (fun c_2 => ?_)
    · refine lv_iconst (v := (0 : Int32)) hx hb dX0_isItsParts_70 (by decide) ?_
      exact re_z (ty := .boolean) hx hb hr hk (by decide) dX0_isItsParts_71 (ei (Eq.trans (if_pos c_1) (if_neg c_2)))
    · refine lv_iconst (v := (1 : Int32)) hx hb dX0_isItsParts_66 (by decide) ?_
      refine lv_goto (tgt := 71) hx hb dX0_isItsParts_67 (by decide) ?_
      exact re_z (ty := .boolean) hx hb hr hk (by decide) dX0_isItsParts_71 (ei (Eq.trans (if_pos c_1) (if_pos c_2)))

set_option maxRecDepth 100000 in
set_option maxHeartbeats 4000000 in
theorem c_X0_isItsDateAndTime (l : Launch) (G : GT) (a : Nat → Nat) (S : SX) (p0 : Int32) (h0 : vp_in p0 6) : RO l G yX0_isItsDateAndTime cX0_isItsDateAndTime 6 (some .boolean) 4 [.ref (a 0), .int p0] (wX G a S) (some (.int (fX0_isItsDateAndTime S p0))) := by
  refine RO.ofW (own := RX0) rfl (by decide +kernel) (Nat.le_of_ble_eq_true rfl) ?_
  intro p e s m below meth c C hr hk hE hP ls hl
  have hx := C.1
  have hb := C.2.1
  have hown := C.2.2.2.1
  have hw := C.2.2.2.2
  have hl : lv_has ls 6 [(0, .ref (a 0)), (1, .int p0)] := hl
  refine lv_aload_n hx hb dX0_isItsDateAndTime_0 rfl (lv_at hl 0 rfl) ?_
  refine va_get (D := gD G) (cl := vwCl) (tys := gT G) (ci := 2) (v := .ref (a 5)) (C := RX0) (T := TX0) (N := 12) hx hb hw inB_X0 hown hE.K hP 0 rfl rfl 4 (by decide) (hw _ bw98) (fun _ h9 => h9) rfl dX0_isItsDateAndTime_1 ?_
  refine lv_iload_n hx hb dX0_isItsDateAndTime_4 rfl (lv_at hl 1 rfl) ?_
  refine va_lald (tys := gT G) hx hb hE.K hP 5 1 rfl rfl h0 dX0_isItsDateAndTime_5 ?_
  refine lv_lstore_n (lv' := [(2, .long (xN S p0.toNatClampNeg)), (0, .ref (a 0)), (1, .int p0)]) hx hb dX0_isItsDateAndTime_6 rfl hl (Nat.le_of_ble_eq_true rfl) rfl (fun ls hl => ?_)
  refine lv_lload_n hx hb dX0_isItsDateAndTime_7 rfl (lv_at hl 0 rfl) ?_
  refine lv_ldc2 (v := (1000000000 : Int64)) hx hb hown (hw _ bw160) dX0_isItsDateAndTime_8 ?_
  refine lv_ldiv hx hb dX0_isItsDateAndTime_11 (by decide) ?_
  refine lv_ldc2 (v := (1000000000 : Int64)) hx hb hown (hw _ bw160) dX0_isItsDateAndTime_12 ?_
  refine lv_lmul hx hb dX0_isItsDateAndTime_15 ?_
  refine lv_lload_n hx hb dX0_isItsDateAndTime_16 rfl (lv_at hl 0 rfl) ?_
  refine rcSi (as := [.long (xN S p0.toNatClampNeg)]) (rest := [.long (((xN S p0.toNatClampNeg) / (1000000000 : Int64)) * (1000000000 : Int64))]) C (c_X0_nanoOfSecond l G (xN S p0.toNatClampNeg)) F_X0_nanoOfSecond rfl bw161 bw162 hE vpn hl.1 dX0_isItsDateAndTime_17 ⟨Nat.le_of_ble_eq_true rfl, Nat.le_of_ble_eq_true rfl⟩ rfl (Nat.le_of_ble_eq_true rfl) ⟨Nat.zero_le _, Nat.zero_le _⟩ ?_
  refine lv_i2l (v := ((fX0_nanoOfSecond (xN S p0.toNatClampNeg)).toInt64)) hx hb dX0_isItsDateAndTime_20 (by first | rfl | decide) ?_
  refine lv_ladd hx hb dX0_isItsDateAndTime_21 ?_
  refine lv_lstore (lv' := [(4, .long ((((xN S p0.toNatClampNeg) / (1000000000 : Int64)) * (1000000000 : Int64)) + ((fX0_nanoOfSecond (xN S p0.toNatClampNeg)).toInt64))), (2, .long (xN S p0.toNatClampNeg)), (0, .ref (a 0)), (1, .int p0)]) hx hb dX0_isItsDateAndTime_22 hl (Nat.le_of_ble_eq_true rfl) rfl (fun ls hl => ?_)
  refine lv_aload_n hx hb dX0_isItsDateAndTime_24 rfl (lv_at hl 2 rfl) ?_
  refine va_get (D := gD G) (cl := vwCl) (tys := gT G) (ci := 2) (v := .ref (a 1)) (C := RX0) (T := TX0) (N := 12) hx hb hw inB_X0 hown hE.K hP 0 rfl rfl 0 (by decide) (hw _ bw94) (fun _ h9 => h9) rfl dX0_isItsDateAndTime_25 ?_
  refine lv_iload_n hx hb dX0_isItsDateAndTime_28 rfl (lv_at hl 3 rfl) ?_
  refine va_iald (tys := gT G) hx hb hE.K hP 1 0 rfl rfl h0 dX0_isItsDateAndTime_29 ?_
  refine rcSl (as := [.int (xy S p0.toNatClampNeg)]) (rest := []) C (c_X0_firstDayOf l G (xy S p0.toNatClampNeg)) F_X0_firstDayOf rfl bw86 bw87 hE vpn hl.1 dX0_isItsDateAndTime_30 ⟨Nat.le_of_ble_eq_true rfl, Nat.le_of_ble_eq_true rfl⟩ rfl (Nat.le_of_ble_eq_true rfl) ⟨Nat.zero_le _, Nat.zero_le _⟩ ?_
  refine lv_aload_n hx hb dX0_isItsDateAndTime_33 rfl (lv_at hl 2 rfl) ?_
  refine lv_iload_n hx hb dX0_isItsDateAndTime_34 rfl (lv_at hl 3 rfl) ?_
  refine rcVi (as := [.int p0]) (rest := [.long (fX0_firstDayOf (xy S p0.toNatClampNeg))]) (cl := RX0) C (c_X0_yearDay l G a S p0 h0) F_X0_yearDay rfl bw182 bw184 bw3 hE hP (rv2 hE.K hP (q0 := 0) rfl) hl.1 dX0_isItsDateAndTime_35 ⟨Nat.le_of_ble_eq_true rfl, Nat.le_of_ble_eq_true rfl⟩ rfl (Nat.le_of_ble_eq_true rfl) ⟨Nat.zero_le _, Nat.zero_le _⟩ ?_
  refine lv_i2l (v := ((fX0_yearDay S p0).toInt64)) hx hb dX0_isItsDateAndTime_38 (by first | rfl | decide) ?_
  refine lv_ladd hx hb dX0_isItsDateAndTime_39 ?_
  refine lv_lconst (v := (1 : Int64)) hx hb dX0_isItsDateAndTime_40 (by decide) ?_
  refine lv_lsub hx hb dX0_isItsDateAndTime_41 ?_
  refine lv_aload_n hx hb dX0_isItsDateAndTime_42 rfl (lv_at hl 2 rfl) ?_
  refine va_get (D := gD G) (cl := vwCl) (tys := gT G) (ci := 2) (v := .ref (a 4)) (C := RX0) (T := TX0) (N := 12) hx hb hw inB_X0 hown hE.K hP 0 rfl rfl 3 (by decide) (hw _ bw97) (fun _ h9 => h9) rfl dX0_isItsDateAndTime_43 ?_
  refine lv_iload_n hx hb dX0_isItsDateAndTime_46 rfl (lv_at hl 3 rfl) ?_
  refine va_lald (tys := gT G) hx hb hE.K hP 4 1 rfl rfl h0 dX0_isItsDateAndTime_47 ?_
  refine W.lcmp hx hb dX0_isItsDateAndTime_48 ?_
  refine lv_if_ne (tgt := 63) hx hb dX0_isItsDateAndTime_49 (by decide) (fun c_1 => ?_) (fun c_1 => ?_)
  · refine lv_iconst (v := (0 : Int32)) hx hb dX0_isItsDateAndTime_63 (by decide) ?_
    exact re_z (ty := .boolean) hx hb hr hk (by decide) dX0_isItsDateAndTime_64 (ei (if_neg c_1))
  · refine lv_lload hx hb dX0_isItsDateAndTime_52 (lv_at hl 0 rfl) ?_
    refine lv_lload_n hx hb dX0_isItsDateAndTime_54 rfl (lv_at hl 1 rfl) ?_
    refine W.lcmp hx hb dX0_isItsDateAndTime_55 ?_
    refine lv_if_ne (tgt := 63) hx hb dX0_isItsDateAndTime_56 (by decide) (fun c_2 => ?_) (fun c_2 => ?_)
    · refine lv_iconst (v := (0 : Int32)) hx hb dX0_isItsDateAndTime_63 (by decide) ?_
      exact re_z (ty := .boolean) hx hb hr hk (by decide) dX0_isItsDateAndTime_64 (ei (Eq.trans (if_pos c_1) (if_neg c_2)))
    · refine lv_iconst (v := (1 : Int32)) hx hb dX0_isItsDateAndTime_59 (by decide) ?_
      refine lv_goto (tgt := 64) hx hb dX0_isItsDateAndTime_60 (by decide) ?_
      exact re_z (ty := .boolean) hx hb hr hk (by decide) dX0_isItsDateAndTime_64 (ei (Eq.trans (if_pos c_1) (if_pos c_2)))

set_option maxRecDepth 100000 in
set_option maxHeartbeats 4000000 in
theorem c_X0_isLineLess (l : Launch) (G : GT) (a : Nat → Nat) (S : SX) (p0 : Int32) (p1 : Int64) (p2 : Int64) (p3 : Int64) (h0 : vp_in p0 6) : RO l G yX0_isLineLess cX0_isLineLess 10 (some .boolean) 3 [.ref (a 0), .int p0, .long p1, .long p2, .long p3] (wX G a S) (some (.int (fX0_isLineLess S p0 p1 p2 p3))) := by
  refine RO.ofW (own := RX0) rfl (by decide +kernel) (Nat.le_of_ble_eq_true rfl) ?_
  intro p e s m below meth c C hr hk hE hP ls hl
  have hx := C.1
  have hb := C.2.1
  have hown := C.2.2.2.1
  have hw := C.2.2.2.2
  have hl : lv_has ls 10 [(0, .ref (a 0)), (1, .int p0), (2, .long p1), (4, .long p2), (6, .long p3)] := hl
  refine lv_lload hx hb dX0_isLineLess_0 (lv_at hl 3 rfl) ?_
  refine lv_lload hx hb dX0_isLineLess_2 (lv_at hl 4 rfl) ?_
  refine lv_lsub hx hb dX0_isLineLess_4 ?_
  refine lv_lstore (lv' := [(8, .long (p2 - p3)), (0, .ref (a 0)), (1, .int p0), (2, .long p1), (4, .long p2), (6, .long p3)]) hx hb dX0_isLineLess_5 hl (Nat.le_of_ble_eq_true rfl) rfl (fun ls hl => ?_)
  refine lv_lload_n hx hb dX0_isLineLess_7 rfl (lv_at hl 3 rfl) ?_
  refine lv_lload hx hb dX0_isLineLess_8 (lv_at hl 0 rfl) ?_
  refine lv_ldc2 (v := (86400000000000 : Int64)) hx hb hown (hw _ bw190) dX0_isLineLess_10 ?_
  refine rcSl (as := [.long (p2 - p3), .long (86400000000000 : Int64)]) (rest := [.long p1]) C (c_J9_floorDiv_f86c9 l G (p2 - p3) (86400000000000 : Int64) (by decide)) F_J9_floorDiv_f86c9 rfl bw191 bw192 hE vpn hl.1 dX0_isLineLess_13 ⟨Nat.le_of_ble_eq_true rfl, Nat.le_of_ble_eq_true rfl⟩ rfl (Nat.le_of_ble_eq_true rfl) ⟨Nat.zero_le _, Nat.zero_le _⟩ ?_
  refine lv_ladd hx hb dX0_isLineLess_16 ?_
  refine lv_aload_n hx hb dX0_isLineLess_17 rfl (lv_at hl 1 rfl) ?_
  refine va_get (D := gD G) (cl := vwCl) (tys := gT G) (ci := 2) (v := .ref (a 4)) (C := RX0) (T := TX0) (N := 12) hx hb hw inB_X0 hown hE.K hP 0 rfl rfl 3 (by decide) (hw _ bw97) (fun _ h9 => h9) rfl dX0_isLineLess_18 ?_
  refine lv_iload_n hx hb dX0_isLineLess_21 rfl (lv_at hl 2 rfl) ?_
  refine va_lald (tys := gT G) hx hb hE.K hP 4 1 rfl rfl h0 dX0_isLineLess_22 ?_
  refine W.lcmp hx hb dX0_isLineLess_23 ?_
  refine lv_if_ne (tgt := 49) hx hb dX0_isLineLess_24 (by decide) (fun c_1 => ?_) (fun c_1 => ?_)
  · refine lv_iconst (v := (0 : Int32)) hx hb dX0_isLineLess_49 (by decide) ?_
    exact re_z (ty := .boolean) hx hb hr hk (by decide) dX0_isLineLess_50 (ei (if_neg c_1))
  · refine lv_lload hx hb dX0_isLineLess_27 (lv_at hl 0 rfl) ?_
    refine lv_ldc2 (v := (86400000000000 : Int64)) hx hb hown (hw _ bw190) dX0_isLineLess_29 ?_
    refine rcSl (as := [.long (p2 - p3), .long (86400000000000 : Int64)]) (rest := []) C (c_J9_floorMod_f86c9 l G (p2 - p3) (86400000000000 : Int64) (by decide)) F_J9_floorMod_f86c9 rfl bw195 bw196 hE vpn hl.1 dX0_isLineLess_32 ⟨Nat.le_of_ble_eq_true rfl, Nat.le_of_ble_eq_true rfl⟩ rfl (Nat.le_of_ble_eq_true rfl) ⟨Nat.zero_le _, Nat.zero_le _⟩ ?_
    refine lv_aload_n hx hb dX0_isLineLess_35 rfl (lv_at hl 1 rfl) ?_
    refine va_get (D := gD G) (cl := vwCl) (tys := gT G) (ci := 2) (v := .ref (a 5)) (C := RX0) (T := TX0) (N := 12) hx hb hw inB_X0 hown hE.K hP 0 rfl rfl 4 (by decide) (hw _ bw98) (fun _ h9 => h9) rfl dX0_isLineLess_36 ?_
    refine lv_iload_n hx hb dX0_isLineLess_39 rfl (lv_at hl 2 rfl) ?_
    refine va_lald (tys := gT G) hx hb hE.K hP 5 1 rfl rfl h0 dX0_isLineLess_40 ?_
    refine W.lcmp hx hb dX0_isLineLess_41 ?_
    refine lv_if_ne (tgt := 49) hx hb dX0_isLineLess_42 (by decide) (fun c_2 => ?_) (fun c_2 => ?_)
    · refine lv_iconst (v := (0 : Int32)) hx hb dX0_isLineLess_49 (by decide) ?_
      exact re_z (ty := .boolean) hx hb hr hk (by decide) dX0_isLineLess_50 (ei (Eq.trans (if_pos c_1) (if_neg c_2)))
    · refine lv_iconst (v := (1 : Int32)) hx hb dX0_isLineLess_45 (by decide) ?_
      refine lv_goto (tgt := 50) hx hb dX0_isLineLess_46 (by decide) ?_
      exact re_z (ty := .boolean) hx hb hr hk (by decide) dX0_isLineLess_50 (ei (Eq.trans (if_pos c_1) (if_pos c_2)))

set_option maxRecDepth 100000 in
set_option maxHeartbeats 4000000 in
theorem c_X0_isBackFromNano (l : Launch) (G : GT) (a : Nat → Nat) (S : SX) (p0 : Int32) (h0 : vp_in p0 6) : RO l G yX0_isBackFromNano cX0_isBackFromNano 6 (some .boolean) 4 [.ref (a 0), .int p0] (wX G a S) (some (.int (fX0_isBackFromNano S p0))) := by
  refine RO.ofW (own := RX0) rfl (by decide +kernel) (Nat.le_of_ble_eq_true rfl) ?_
  intro p e s m below meth c C hr hk hE hP ls hl
  have hx := C.1
  have hb := C.2.1
  have hown := C.2.2.2.1
  have hw := C.2.2.2.2
  have hl : lv_has ls 6 [(0, .ref (a 0)), (1, .int p0)] := hl
  refine lv_aload_n hx hb dX0_isBackFromNano_0 rfl (lv_at hl 0 rfl) ?_
  refine va_get (D := gD G) (cl := vwCl) (tys := gT G) (ci := 2) (v := .ref (a 5)) (C := RX0) (T := TX0) (N := 12) hx hb hw inB_X0 hown hE.K hP 0 rfl rfl 4 (by decide) (hw _ bw98) (fun _ h9 => h9) rfl dX0_isBackFromNano_1 ?_
  refine lv_iload_n hx hb dX0_isBackFromNano_4 rfl (lv_at hl 1 rfl) ?_
  refine va_lald (tys := gT G) hx hb hE.K hP 5 1 rfl rfl h0 dX0_isBackFromNano_5 ?_
  refine lv_lconst (v := (1 : Int64)) hx hb dX0_isBackFromNano_6 (by decide) ?_
  refine lv_ladd hx hb dX0_isBackFromNano_7 ?_
  refine lv_lstore_n (lv' := [(2, .long ((xN S p0.toNatClampNeg) + (1 : Int64))), (0, .ref (a 0)), (1, .int p0)]) hx hb dX0_isBackFromNano_8 rfl hl (Nat.le_of_ble_eq_true rfl) rfl (fun ls hl => ?_)
  refine lv_aload_n hx hb dX0_isBackFromNano_9 rfl (lv_at hl 1 rfl) ?_
  refine va_get (D := gD G) (cl := vwCl) (tys := gT G) (ci := 2) (v := .ref (a 4)) (C := RX0) (T := TX0) (N := 12) hx hb hw inB_X0 hown hE.K hP 0 rfl rfl 3 (by decide) (hw _ bw97) (fun _ h9 => h9) rfl dX0_isBackFromNano_10 ?_
  refine lv_iload_n hx hb dX0_isBackFromNano_13 rfl (lv_at hl 2 rfl) ?_
  refine va_lald (tys := gT G) hx hb hE.K hP 4 1 rfl rfl h0 dX0_isBackFromNano_14 ?_
  refine lv_lload_n hx hb dX0_isBackFromNano_15 rfl (lv_at hl 0 rfl) ?_
  refine lv_ldc2 (v := (86400000000000 : Int64)) hx hb hown (hw _ bw190) dX0_isBackFromNano_16 ?_
  refine rcSl (as := [.long ((xN S p0.toNatClampNeg) + (1 : Int64)), .long (86400000000000 : Int64)]) (rest := [.long (xD S p0.toNatClampNeg)]) C (c_J9_floorDiv_f86c9 l G ((xN S p0.toNatClampNeg) + (1 : Int64)) (86400000000000 : Int64) (by decide)) F_J9_floorDiv_f86c9 rfl bw191 bw192 hE vpn hl.1 dX0_isBackFromNano_19 ⟨Nat.le_of_ble_eq_true rfl, Nat.le_of_ble_eq_true rfl⟩ rfl (Nat.le_of_ble_eq_true rfl) ⟨Nat.zero_le _, Nat.zero_le _⟩ ?_
  refine lv_ladd hx hb dX0_isBackFromNano_22 ?_
  refine lv_lstore (lv' := [(4, .long ((xD S p0.toNatClampNeg) + (fJ9_floorDiv_f86c9 ((xN S p0.toNatClampNeg) + (1 : Int64)) (86400000000000 : Int64)))), (2, .long ((xN S p0.toNatClampNeg) + (1 : Int64))), (0, .ref (a 0)), (1, .int p0)]) hx hb dX0_isBackFromNano_23 hl (Nat.le_of_ble_eq_true rfl) rfl (fun ls hl => ?_)
  refine lv_lload hx hb dX0_isBackFromNano_25 (lv_at hl 0 rfl) ?_
  refine lv_ldc2 (v := (2932896 : Int64)) hx hb hown (hw _ bw194) dX0_isBackFromNano_27 ?_
  refine W.lcmp hx hb dX0_isBackFromNano_30 ?_
  refine lv_if_le (tgt := 36) hx hb dX0_isBackFromNano_31 (by decide) (fun c_1 => ?_) (fun c_1 => ?_)
  · refine lv_aload_n hx hb dX0_isBackFromNano_36 rfl (lv_at hl 2 rfl) ?_
    refine lv_iload_n hx hb dX0_isBackFromNano_37 rfl (lv_at hl 3 rfl) ?_
    refine lv_lload hx hb dX0_isBackFromNano_38 (lv_at hl 0 rfl) ?_
    refine lv_lload_n hx hb dX0_isBackFromNano_40 rfl (lv_at hl 1 rfl) ?_
    refine lv_ldc2 (v := (86400000000000 : Int64)) hx hb hown (hw _ bw190) dX0_isBackFromNano_41 ?_
    refine rcSl (as := [.long ((xN S p0.toNatClampNeg) + (1 : Int64)), .long (86400000000000 : Int64)]) (rest := [.long ((xD S p0.toNatClampNeg) + (fJ9_floorDiv_f86c9 ((xN S p0.toNatClampNeg) + (1 : Int64)) (86400000000000 : Int64))), .int p0, .ref (a 0)]) C (c_J9_floorMod_f86c9 l G ((xN S p0.toNatClampNeg) + (1 : Int64)) (86400000000000 : Int64) (by decide)) F_J9_floorMod_f86c9 rfl bw195 bw196 hE vpn hl.1 dX0_isBackFromNano_44 ⟨Nat.le_of_ble_eq_true rfl, Nat.le_of_ble_eq_true rfl⟩ rfl (Nat.le_of_ble_eq_true rfl) ⟨Nat.zero_le _, Nat.zero_le _⟩ ?_
    refine lv_lconst (v := (1 : Int64)) hx hb dX0_isBackFromNano_47 (by decide) ?_
    refine rcVi (as := [.int p0, .long ((xD S p0.toNatClampNeg) + (fJ9_floorDiv_f86c9 ((xN S p0.toNatClampNeg) + (1 : Int64)) (86400000000000 : Int64))), .long (fJ9_floorMod_f86c9 ((xN S p0.toNatClampNeg) + (1 : Int64)) (86400000000000 : Int64)), .long (1 : Int64)]) (rest := []) (cl := RX0) C (c_X0_isLineLess l G a S p0 ((xD S p0.toNatClampNeg) + (fJ9_floorDiv_f86c9 ((xN S p0.toNatClampNeg) + (1 : Int64)) (86400000000000 : Int64))) (fJ9_floorMod_f86c9 ((xN S p0.toNatClampNeg) + (1 : Int64)) (86400000000000 : Int64)) (1 : Int64) h0) F_X0_isLineLess rfl bw198 bw200 bw5 hE hP (rv2 hE.K hP (q0 := 0) rfl) hl.1 dX0_isBackFromNano_48 ⟨Nat.le_of_ble_eq_true rfl, Nat.le_of_ble_eq_true rfl⟩ rfl (Nat.le_of_ble_eq_true rfl) ⟨Nat.zero_le _, Nat.zero_le _⟩ ?_
    exact re_z (ty := .boolean) hx hb hr hk (bX0_isLineLess S p0 ((xD S p0.toNatClampNeg) + (fJ9_floorDiv_f86c9 ((xN S p0.toNatClampNeg) + (1 : Int64)) (86400000000000 : Int64))) (fJ9_floorMod_f86c9 ((xN S p0.toNatClampNeg) + (1 : Int64)) (86400000000000 : Int64)) (1 : Int64)) dX0_isBackFromNano_51 (ei (if_pos c_1))
  · refine lv_iconst (v := (1 : Int32)) hx hb dX0_isBackFromNano_34 (by decide) ?_
    exact re_z (ty := .boolean) hx hb hr hk (by decide) dX0_isBackFromNano_35 (ei (if_neg c_1))

set_option maxRecDepth 100000 in
set_option maxHeartbeats 4000000 in
theorem c_X0_isBackFromDay (l : Launch) (G : GT) (a : Nat → Nat) (S : SX) (p0 : Int32) (h0 : vp_in p0 6) : RO l G yX0_isBackFromDay cX0_isBackFromDay 2 (some .boolean) 4 [.ref (a 0), .int p0] (wX G a S) (some (.int (fX0_isBackFromDay S p0))) := by
  refine RO.ofW (own := RX0) rfl (by decide +kernel) (Nat.le_of_ble_eq_true rfl) ?_
  intro p e s m below meth c C hr hk hE hP ls hl
  have hx := C.1
  have hb := C.2.1
  have hown := C.2.2.2.1
  have hw := C.2.2.2.2
  have hl : lv_has ls 2 [(0, .ref (a 0)), (1, .int p0)] := hl
  refine lv_aload_n hx hb dX0_isBackFromDay_0 rfl (lv_at hl 0 rfl) ?_
  refine va_get (D := gD G) (cl := vwCl) (tys := gT G) (ci := 2) (v := .ref (a 4)) (C := RX0) (T := TX0) (N := 12) hx hb hw inB_X0 hown hE.K hP 0 rfl rfl 3 (by decide) (hw _ bw97) (fun _ h9 => h9) rfl dX0_isBackFromDay_1 ?_
  refine lv_iload_n hx hb dX0_isBackFromDay_4 rfl (lv_at hl 1 rfl) ?_
  refine va_lald (tys := gT G) hx hb hE.K hP 4 1 rfl rfl h0 dX0_isBackFromDay_5 ?_
  refine lv_ldc2 (v := (2932896 : Int64)) hx hb hown (hw _ bw194) dX0_isBackFromDay_6 ?_
  refine W.lcmp hx hb dX0_isBackFromDay_9 ?_
  refine lv_if_lt (tgt := 15) hx hb dX0_isBackFromDay_10 (by decide) (fun c_1 => ?_) (fun c_1 => ?_)
  · refine lv_aload_n hx hb dX0_isBackFromDay_15 rfl (lv_at hl 0 rfl) ?_
    refine lv_iload_n hx hb dX0_isBackFromDay_16 rfl (lv_at hl 1 rfl) ?_
    refine lv_aload_n hx hb dX0_isBackFromDay_17 rfl (lv_at hl 0 rfl) ?_
    refine va_get (D := gD G) (cl := vwCl) (tys := gT G) (ci := 2) (v := .ref (a 4)) (C := RX0) (T := TX0) (N := 12) hx hb hw inB_X0 hown hE.K hP 0 rfl rfl 3 (by decide) (hw _ bw97) (fun _ h9 => h9) rfl dX0_isBackFromDay_18 ?_
    refine lv_iload_n hx hb dX0_isBackFromDay_21 rfl (lv_at hl 1 rfl) ?_
    refine va_lald (tys := gT G) hx hb hE.K hP 4 1 rfl rfl h0 dX0_isBackFromDay_22 ?_
    refine lv_lconst (v := (1 : Int64)) hx hb dX0_isBackFromDay_23 (by decide) ?_
    refine lv_ladd hx hb dX0_isBackFromDay_24 ?_
    refine lv_aload_n hx hb dX0_isBackFromDay_25 rfl (lv_at hl 0 rfl) ?_
    refine va_get (D := gD G) (cl := vwCl) (tys := gT G) (ci := 2) (v := .ref (a 5)) (C := RX0) (T := TX0) (N := 12) hx hb hw inB_X0 hown hE.K hP 0 rfl rfl 4 (by decide) (hw _ bw98) (fun _ h9 => h9) rfl dX0_isBackFromDay_26 ?_
    refine lv_iload_n hx hb dX0_isBackFromDay_29 rfl (lv_at hl 1 rfl) ?_
    refine va_lald (tys := gT G) hx hb hE.K hP 5 1 rfl rfl h0 dX0_isBackFromDay_30 ?_
    refine lv_ldc2 (v := (86400000000000 : Int64)) hx hb hown (hw _ bw190) dX0_isBackFromDay_31 ?_
    refine rcVi (as := [.int p0, .long ((xD S p0.toNatClampNeg) + (1 : Int64)), .long (xN S p0.toNatClampNeg), .long (86400000000000 : Int64)]) (rest := []) (cl := RX0) C (c_X0_isLineLess l G a S p0 ((xD S p0.toNatClampNeg) + (1 : Int64)) (xN S p0.toNatClampNeg) (86400000000000 : Int64) h0) F_X0_isLineLess rfl bw198 bw200 bw5 hE hP (rv2 hE.K hP (q0 := 0) rfl) hl.1 dX0_isBackFromDay_34 ⟨Nat.le_of_ble_eq_true rfl, Nat.le_of_ble_eq_true rfl⟩ rfl (Nat.le_of_ble_eq_true rfl) ⟨Nat.zero_le _, Nat.zero_le _⟩ ?_
    exact re_z (ty := .boolean) hx hb hr hk (bX0_isLineLess S p0 ((xD S p0.toNatClampNeg) + (1 : Int64)) (xN S p0.toNatClampNeg) (86400000000000 : Int64)) dX0_isBackFromDay_37 (ei (if_pos c_1))
  · refine lv_iconst (v := (1 : Int32)) hx hb dX0_isBackFromDay_13 (by decide) ?_
    exact re_z (ty := .boolean) hx hb hr hk (by decide) dX0_isBackFromDay_14 (ei (if_neg c_1))

set_option maxRecDepth 100000 in
set_option maxHeartbeats 4000000 in
theorem c_X0_isBackFromCycle (l : Launch) (G : GT) (a : Nat → Nat) (S : SX) (p0 : Int32) (h0 : vp_in p0 6) : RO l G yX0_isBackFromCycle cX0_isBackFromCycle 4 (some .boolean) 4 [.ref (a 0), .int p0] (wX G a S) (some (.int (fX0_isBackFromCycle S p0))) := by
  refine RO.ofW (own := RX0) rfl (by decide +kernel) (Nat.le_of_ble_eq_true rfl) ?_
  intro p e s m below meth c C hr hk hE hP ls hl
  have hx := C.1
  have hb := C.2.1
  have hown := C.2.2.2.1
  have hw := C.2.2.2.2
  have hl : lv_has ls 4 [(0, .ref (a 0)), (1, .int p0)] := hl
  refine lv_aload_n hx hb dX0_isBackFromCycle_0 rfl (lv_at hl 0 rfl) ?_
  refine va_get (D := gD G) (cl := vwCl) (tys := gT G) (ci := 2) (v := .ref (a 1)) (C := RX0) (T := TX0) (N := 12) hx hb hw inB_X0 hown hE.K hP 0 rfl rfl 0 (by decide) (hw _ bw94) (fun _ h9 => h9) rfl dX0_isBackFromCycle_1 ?_
  refine lv_iload_n hx hb dX0_isBackFromCycle_4 rfl (lv_at hl 1 rfl) ?_
  refine va_iald (tys := gT G) hx hb hE.K hP 1 0 rfl rfl h0 dX0_isBackFromCycle_5 ?_
  refine lv_sipush (v := (400 : Int32)) hx hb dX0_isBackFromCycle_6 (by decide) ?_
  refine lv_iadd hx hb dX0_isBackFromCycle_9 ?_
  refine lv_istore_n (lv' := [(2, .int ((xy S p0.toNatClampNeg) + (400 : Int32))), (0, .ref (a 0)), (1, .int p0)]) hx hb dX0_isBackFromCycle_10 rfl hl (Nat.le_of_ble_eq_true rfl) rfl (fun ls hl => ?_)
  refine lv_iload_n hx hb dX0_isBackFromCycle_11 rfl (lv_at hl 0 rfl) ?_
  refine lv_sipush (v := (9999 : Int32)) hx hb dX0_isBackFromCycle_12 (by decide) ?_
  refine lv_icmp_le (tgt := 20) hx hb dX0_isBackFromCycle_15 (by decide) (fun c_1 => ?_) (fun c_1 => ?_)
  · refine lv_aload_n hx hb dX0_isBackFromCycle_20 rfl (lv_at hl 1 rfl) ?_
    refine va_get (D := gD G) (cl := vwCl) (tys := gT G) (ci := 2) (v := .ref (a 3)) (C := RX0) (T := TX0) (N := 12) hx hb hw inB_X0 hown hE.K hP 0 rfl rfl 2 (by decide) (hw _ bw96) (fun _ h9 => h9) rfl dX0_isBackFromCycle_21 ?_
    refine lv_iload_n hx hb dX0_isBackFromCycle_24 rfl (lv_at hl 2 rfl) ?_
    refine va_iald (tys := gT G) hx hb hE.K hP 3 0 rfl rfl h0 dX0_isBackFromCycle_25 ?_
    refine lv_iload_n hx hb dX0_isBackFromCycle_26 rfl (lv_at hl 0 rfl) ?_
    refine lv_aload_n hx hb dX0_isBackFromCycle_27 rfl (lv_at hl 1 rfl) ?_
    refine va_get (D := gD G) (cl := vwCl) (tys := gT G) (ci := 2) (v := .ref (a 2)) (C := RX0) (T := TX0) (N := 12) hx hb hw inB_X0 hown hE.K hP 0 rfl rfl 1 (by decide) (hw _ bw95) (fun _ h9 => h9) rfl dX0_isBackFromCycle_28 ?_
    refine lv_iload_n hx hb dX0_isBackFromCycle_31 rfl (lv_at hl 2 rfl) ?_
    refine va_iald (tys := gT G) hx hb hE.K hP 2 0 rfl rfl h0 dX0_isBackFromCycle_32 ?_
    refine rcSi (as := [.int ((xy S p0.toNatClampNeg) + (400 : Int32)), .int (xm S p0.toNatClampNeg)]) (rest := [.int (xd S p0.toNatClampNeg)]) C (c_X0_monthLength l G ((xy S p0.toNatClampNeg) + (400 : Int32)) (xm S p0.toNatClampNeg)) F_X0_monthLength rfl bw210 bw211 hE vpn hl.1 dX0_isBackFromCycle_33 ⟨Nat.le_of_ble_eq_true rfl, Nat.le_of_ble_eq_true rfl⟩ rfl (Nat.le_of_ble_eq_true rfl) ⟨Nat.zero_le _, Nat.zero_le _⟩ ?_
    refine rcSi (as := [.int (xd S p0.toNatClampNeg), .int (fX0_monthLength ((xy S p0.toNatClampNeg) + (400 : Int32)) (xm S p0.toNatClampNeg))]) (rest := []) C (c_J9_min_7cf53 l G (xd S p0.toNatClampNeg) (fX0_monthLength ((xy S p0.toNatClampNeg) + (400 : Int32)) (xm S p0.toNatClampNeg))) F_J9_min_7cf53 rfl bw213 bw214 hE vpn hl.1 dX0_isBackFromCycle_36 ⟨Nat.le_of_ble_eq_true rfl, Nat.le_of_ble_eq_true rfl⟩ rfl (Nat.le_of_ble_eq_true rfl) ⟨Nat.zero_le _, Nat.zero_le _⟩ ?_
    refine lv_istore_n (lv' := [(3, .int (fJ9_min_7cf53 (xd S p0.toNatClampNeg) (fX0_monthLength ((xy S p0.toNatClampNeg) + (400 : Int32)) (xm S p0.toNatClampNeg)))), (2, .int ((xy S p0.toNatClampNeg) + (400 : Int32))), (0, .ref (a 0)), (1, .int p0)]) hx hb dX0_isBackFromCycle_39 rfl hl (Nat.le_of_ble_eq_true rfl) rfl (fun ls hl => ?_)
    refine lv_iload_n hx hb dX0_isBackFromCycle_40 rfl (lv_at hl 1 rfl) ?_
    refine lv_aload_n hx hb dX0_isBackFromCycle_41 rfl (lv_at hl 2 rfl) ?_
    refine va_get (D := gD G) (cl := vwCl) (tys := gT G) (ci := 2) (v := .ref (a 2)) (C := RX0) (T := TX0) (N := 12) hx hb hw inB_X0 hown hE.K hP 0 rfl rfl 1 (by decide) (hw _ bw95) (fun _ h9 => h9) rfl dX0_isBackFromCycle_42 ?_
    refine lv_iload_n hx hb dX0_isBackFromCycle_45 rfl (lv_at hl 3 rfl) ?_
    refine va_iald (tys := gT G) hx hb hE.K hP 2 0 rfl rfl h0 dX0_isBackFromCycle_46 ?_
    refine lv_iload_n hx hb dX0_isBackFromCycle_47 rfl (lv_at hl 0 rfl) ?_
    refine rcSl (as := [.int ((xy S p0.toNatClampNeg) + (400 : Int32)), .int (xm S p0.toNatClampNeg), .int (fJ9_min_7cf53 (xd S p0.toNatClampNeg) (fX0_monthLength ((xy S p0.toNatClampNeg) + (400 : Int32)) (xm S p0.toNatClampNeg)))]) (rest := []) C (c_X0_dayOf l G ((xy S p0.toNatClampNeg) + (400 : Int32)) (xm S p0.toNatClampNeg) (fJ9_min_7cf53 (xd S p0.toNatClampNeg) (fX0_monthLength ((xy S p0.toNatClampNeg) + (400 : Int32)) (xm S p0.toNatClampNeg)))) F_X0_dayOf rfl bw167 bw168 hE vpn hl.1 dX0_isBackFromCycle_48 ⟨Nat.le_of_ble_eq_true rfl, Nat.le_of_ble_eq_true rfl⟩ rfl (Nat.le_of_ble_eq_true rfl) ⟨Nat.zero_le _, Nat.zero_le _⟩ ?_
    refine lv_ldc2 (v := (146097 : Int64)) hx hb hown (hw _ bw216) dX0_isBackFromCycle_51 ?_
    refine lv_lsub hx hb dX0_isBackFromCycle_54 ?_
    refine lv_aload_n hx hb dX0_isBackFromCycle_55 rfl (lv_at hl 2 rfl) ?_
    refine va_get (D := gD G) (cl := vwCl) (tys := gT G) (ci := 2) (v := .ref (a 4)) (C := RX0) (T := TX0) (N := 12) hx hb hw inB_X0 hown hE.K hP 0 rfl rfl 3 (by decide) (hw _ bw97) (fun _ h9 => h9) rfl dX0_isBackFromCycle_56 ?_
    refine lv_iload_n hx hb dX0_isBackFromCycle_59 rfl (lv_at hl 3 rfl) ?_
    refine va_lald (tys := gT G) hx hb hE.K hP 4 1 rfl rfl h0 dX0_isBackFromCycle_60 ?_
    refine W.lcmp hx hb dX0_isBackFromCycle_61 ?_
    refine lv_if_ne (tgt := 69) hx hb dX0_isBackFromCycle_62 (by decide) (fun c_2 => ?_) (fun c_2 => ?_)
    · refine lv_iconst (v := (0 : Int32)) hx hb dX0_isBackFromCycle_69 (by decide) ?_
      exact re_z (ty := .boolean) hx hb hr hk (by decide) dX0_isBackFromCycle_70 (ei (Eq.trans (if_pos c_1) (if_neg c_2)))
    · refine lv_iconst (v := (1 : Int32)) hx hb dX0_isBackFromCycle_65 (by decide) ?_
      refine lv_goto (tgt := 70) hx hb dX0_isBackFromCycle_66 (by decide) ?_
      exact re_z (ty := .boolean) hx hb hr hk (by decide) dX0_isBackFromCycle_70 (ei (Eq.trans (if_pos c_1) (if_pos c_2)))
  · refine lv_iconst (v := (1 : Int32)) hx hb dX0_isBackFromCycle_18 (by decide) ?_
    exact re_z (ty := .boolean) hx hb hr hk (by decide) dX0_isBackFromCycle_19 (ei (if_neg c_1))

set_option maxRecDepth 100000 in
set_option maxHeartbeats 4000000 in
theorem c_X0_isSoundAlone (l : Launch) (G : GT) (a : Nat → Nat) (S : SX) (p0 : Int32) (h0 : vp_in p0 6) : RO l G yX0_isSoundAlone cX0_isSoundAlone 2 (some .boolean) 5 [.ref (a 0), .int p0] (wX G a S) (some (.int (fX0_isSoundAlone S p0))) := by
  refine RO.ofW (own := RX0) rfl (by decide +kernel) (Nat.le_of_ble_eq_true rfl) ?_
  intro p e s m below meth c C hr hk hE hP ls hl
  have hx := C.1
  have hb := C.2.1
  have hown := C.2.2.2.1
  have hw := C.2.2.2.2
  have hl : lv_has ls 2 [(0, .ref (a 0)), (1, .int p0)] := hl
  refine lv_aload_n hx hb dX0_isSoundAlone_0 rfl (lv_at hl 0 rfl) ?_
  refine lv_iload_n hx hb dX0_isSoundAlone_1 rfl (lv_at hl 1 rfl) ?_
  refine rcVi (as := [.int p0]) (rest := []) (cl := RX0) C (c_X0_isItsParts l G a S p0 h0) F_X0_isItsParts rfl bw145 bw147 bw1 hE hP (rv2 hE.K hP (q0 := 0) rfl) hl.1 dX0_isSoundAlone_2 ⟨Nat.le_of_ble_eq_true rfl, Nat.le_of_ble_eq_true rfl⟩ rfl (Nat.le_of_ble_eq_true rfl) ⟨Nat.zero_le _, Nat.zero_le _⟩ ?_
  refine lv_if_eq (tgt := 56) hx hb dX0_isSoundAlone_5 (by decide) (fun c_1 => ?_) (fun c_1 => ?_)
  · refine lv_iconst (v := (0 : Int32)) hx hb dX0_isSoundAlone_56 (by decide) ?_
    exact re_z (ty := .boolean) hx hb hr hk (by decide) dX0_isSoundAlone_57 (ei (if_pos c_1))
  · refine lv_aload_n hx hb dX0_isSoundAlone_8 rfl (lv_at hl 0 rfl) ?_
    refine lv_iload_n hx hb dX0_isSoundAlone_9 rfl (lv_at hl 1 rfl) ?_
    refine rcVi (as := [.int p0]) (rest := []) (cl := RX0) C (c_X0_isItsDateAndTime l G a S p0 h0) F_X0_isItsDateAndTime rfl bw178 bw180 bw2 hE hP (rv2 hE.K hP (q0 := 0) rfl) hl.1 dX0_isSoundAlone_10 ⟨Nat.le_of_ble_eq_true rfl, Nat.le_of_ble_eq_true rfl⟩ rfl (Nat.le_of_ble_eq_true rfl) ⟨Nat.zero_le _, Nat.zero_le _⟩ ?_
    refine lv_if_eq (tgt := 56) hx hb dX0_isSoundAlone_13 (by decide) (fun c_2 => ?_) (fun c_2 => ?_)
    · refine lv_iconst (v := (0 : Int32)) hx hb dX0_isSoundAlone_56 (by decide) ?_
      exact re_z (ty := .boolean) hx hb hr hk (by decide) dX0_isSoundAlone_57 (ei (Eq.trans (if_neg c_1) (if_pos c_2)))
    · refine lv_aload_n hx hb dX0_isSoundAlone_16 rfl (lv_at hl 0 rfl) ?_
      refine lv_iload_n hx hb dX0_isSoundAlone_17 rfl (lv_at hl 1 rfl) ?_
      refine rcVi (as := [.int p0]) (rest := []) (cl := RX0) C (c_X0_isBackFromNano l G a S p0 h0) F_X0_isBackFromNano rfl bw186 bw188 bw4 hE hP (rv2 hE.K hP (q0 := 0) rfl) hl.1 dX0_isSoundAlone_18 ⟨Nat.le_of_ble_eq_true rfl, Nat.le_of_ble_eq_true rfl⟩ rfl (Nat.le_of_ble_eq_true rfl) ⟨Nat.zero_le _, Nat.zero_le _⟩ ?_
      refine lv_if_eq (tgt := 56) hx hb dX0_isSoundAlone_21 (by decide) (fun c_3 => ?_) (fun c_3 => ?_)
      · refine lv_iconst (v := (0 : Int32)) hx hb dX0_isSoundAlone_56 (by decide) ?_
        exact re_z (ty := .boolean) hx hb hr hk (by decide) dX0_isSoundAlone_57 (ei (Eq.trans (if_neg c_1) (Eq.trans (if_neg c_2) (if_pos c_3))))
      · refine lv_aload_n hx hb dX0_isSoundAlone_24 rfl (lv_at hl 0 rfl) ?_
        refine lv_iload_n hx hb dX0_isSoundAlone_25 rfl (lv_at hl 1 rfl) ?_
        refine rcVi (as := [.int p0]) (rest := []) (cl := RX0) C (c_X0_isBackFromDay l G a S p0 h0) F_X0_isBackFromDay rfl bw202 bw204 bw6 hE hP (rv2 hE.K hP (q0 := 0) rfl) hl.1 dX0_isSoundAlone_26 ⟨Nat.le_of_ble_eq_true rfl, Nat.le_of_ble_eq_true rfl⟩ rfl (Nat.le_of_ble_eq_true rfl) ⟨Nat.zero_le _, Nat.zero_le _⟩ ?_
        refine lv_if_eq (tgt := 56) hx hb dX0_isSoundAlone_29 (by decide) (fun c_4 => ?_) (fun c_4 => ?_)
        · refine lv_iconst (v := (0 : Int32)) hx hb dX0_isSoundAlone_56 (by decide) ?_
          exact re_z (ty := .boolean) hx hb hr hk (by decide) dX0_isSoundAlone_57 (ei (Eq.trans (if_neg c_1) (Eq.trans (if_neg c_2) (Eq.trans (if_neg c_3) (if_pos c_4)))))
        · refine lv_aload_n hx hb dX0_isSoundAlone_32 rfl (lv_at hl 0 rfl) ?_
          refine lv_iload_n hx hb dX0_isSoundAlone_33 rfl (lv_at hl 1 rfl) ?_
          refine rcVi (as := [.int p0]) (rest := []) (cl := RX0) C (c_X0_isBackFromCycle l G a S p0 h0) F_X0_isBackFromCycle rfl bw206 bw208 bw7 hE hP (rv2 hE.K hP (q0 := 0) rfl) hl.1 dX0_isSoundAlone_34 ⟨Nat.le_of_ble_eq_true rfl, Nat.le_of_ble_eq_true rfl⟩ rfl (Nat.le_of_ble_eq_true rfl) ⟨Nat.zero_le _, Nat.zero_le _⟩ ?_
          refine lv_if_eq (tgt := 56) hx hb dX0_isSoundAlone_37 (by decide) (fun c_5 => ?_) (fun c_5 => ?_)
          · refine lv_iconst (v := (0 : Int32)) hx hb dX0_isSoundAlone_56 (by decide) ?_
            exact re_z (ty := .boolean) hx hb hr hk (by decide) dX0_isSoundAlone_57 (ei (Eq.trans (if_neg c_1) (Eq.trans (if_neg c_2) (Eq.trans (if_neg c_3) (Eq.trans (if_neg c_4) (if_pos c_5))))))
          · refine lv_aload_n hx hb dX0_isSoundAlone_40 rfl (lv_at hl 0 rfl) ?_
            refine va_get (D := gD G) (cl := vwCl) (tys := gT G) (ci := 2) (v := .ref (a 5)) (C := RX0) (T := TX0) (N := 12) hx hb hw inB_X0 hown hE.K hP 0 rfl rfl 4 (by decide) (hw _ bw98) (fun _ h9 => h9) rfl dX0_isSoundAlone_41 ?_
            refine lv_iload_n hx hb dX0_isSoundAlone_44 rfl (lv_at hl 1 rfl) ?_
            refine va_lald (tys := gT G) hx hb hE.K hP 5 1 rfl rfl h0 dX0_isSoundAlone_45 ?_
            refine rcSi (as := [.long (xN S p0.toNatClampNeg)]) (rest := []) C (c_X0_isCutWell l G (xN S p0.toNatClampNeg)) F_X0_isCutWell rfl bw217 bw218 hE vpn hl.1 dX0_isSoundAlone_46 ⟨Nat.le_of_ble_eq_true rfl, Nat.le_of_ble_eq_true rfl⟩ rfl (Nat.le_of_ble_eq_true rfl) ⟨Nat.zero_le _, Nat.zero_le _⟩ ?_
            refine lv_if_eq (tgt := 56) hx hb dX0_isSoundAlone_49 (by decide) (fun c_6 => ?_) (fun c_6 => ?_)
            · refine lv_iconst (v := (0 : Int32)) hx hb dX0_isSoundAlone_56 (by decide) ?_
              exact re_z (ty := .boolean) hx hb hr hk (by decide) dX0_isSoundAlone_57 (ei (Eq.trans (if_neg c_1) (Eq.trans (if_neg c_2) (Eq.trans (if_neg c_3) (Eq.trans (if_neg c_4) (Eq.trans (if_neg c_5) (if_pos c_6)))))))
            · refine lv_iconst (v := (1 : Int32)) hx hb dX0_isSoundAlone_52 (by decide) ?_
              refine lv_goto (tgt := 57) hx hb dX0_isSoundAlone_53 (by decide) ?_
              exact re_z (ty := .boolean) hx hb hr hk (by decide) dX0_isSoundAlone_57 (ei (Eq.trans (if_neg c_1) (Eq.trans (if_neg c_2) (Eq.trans (if_neg c_3) (Eq.trans (if_neg c_4) (Eq.trans (if_neg c_5) (if_neg c_6)))))))

