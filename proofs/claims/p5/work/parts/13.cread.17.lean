set_option maxRecDepth 100000 in
set_option maxHeartbeats 4000000 in
theorem c_X2_lineBetween (l : Launch) (G : GT) (b : Nat → Nat) (T : SM) (p0 : Int32) (p1 : Int32) (p2 : Int32) (h0 : vp_in p0 6) (h1 : vp_in p1 6) (hT : MO T) : RO l G yX2_lineBetween cX2_lineBetween 8 (some .long) 6 [.ref (b 0), .int p0, .int p1, .int p2] (wM G b T) (some (.long (fX2_lineBetween T p0 p1 p2))) := by
  refine RO.ofW (own := RX2) rfl (by decide +kernel) (Nat.le_of_ble_eq_true rfl) ?_
  intro p e s m below meth c C hr hk hE hP ls hl
  have hx := C.1
  have hb := C.2.1
  have hown := C.2.2.2.1
  have hw := C.2.2.2.2
  have hl : lv_has ls 8 [(0, .ref (b 0)), (1, .int p0), (2, .int p1), (3, .int p2)] := hl
  refine lv_aload_n hx hb dX2_lineBetween_0 rfl (lv_at hl 0 rfl) ?_
  refine lv_iload_n hx hb dX2_lineBetween_1 rfl (lv_at hl 2 rfl) ?_
  refine rcVl (as := [.int p1]) (rest := []) (cl := RX2) C (c_X2_dayNow l G b T p1 h1 hT) F_X2_dayNow rfl bw1247 bw1249 bw38 hE hP (va_recv hE.K hP (ci := 4) (q0 := 0) rfl rfl) hl.1 dX2_lineBetween_2 ⟨Nat.le_of_ble_eq_true rfl, Nat.le_of_ble_eq_true rfl⟩ rfl (Nat.le_of_ble_eq_true rfl) ⟨Nat.zero_le _, Nat.zero_le _⟩ ?_
  refine lv_aload_n hx hb dX2_lineBetween_5 rfl (lv_at hl 0 rfl) ?_
  refine lv_iload_n hx hb dX2_lineBetween_6 rfl (lv_at hl 1 rfl) ?_
  refine rcVl (as := [.int p0]) (rest := [.long (fX2_dayNow T p1)]) (cl := RX2) C (c_X2_dayNow l G b T p0 h0 hT) F_X2_dayNow rfl bw1247 bw1249 bw38 hE hP (va_recv hE.K hP (ci := 4) (q0 := 0) rfl rfl) hl.1 dX2_lineBetween_7 ⟨Nat.le_of_ble_eq_true rfl, Nat.le_of_ble_eq_true rfl⟩ rfl (Nat.le_of_ble_eq_true rfl) ⟨Nat.zero_le _, Nat.zero_le _⟩ ?_
  refine lv_lsub hx hb dX2_lineBetween_10 ?_
  refine lv_lstore (lv' := [(4, .long ((fX2_dayNow T p1) - (fX2_dayNow T p0))), (0, .ref (b 0)), (1, .int p0), (2, .int p1), (3, .int p2)]) hx hb dX2_lineBetween_11 hl (Nat.le_of_ble_eq_true rfl) rfl (fun ls hl => ?_)
  refine lv_aload_n hx hb dX2_lineBetween_13 rfl (lv_at hl 1 rfl) ?_
  refine va_get (D := gD G) (cl := vwCl) (tys := gT G) (ci := 4) (v := .ref (b 4)) (C := RX2) (T := TX2) (N := 12) hx hb hw inB_X2 hown hE.K hP 0 rfl rfl 4 (by decide) (hw _ bw1167) (fun _ h9 => h9) rfl dX2_lineBetween_14 ?_
  refine lv_iload_n hx hb dX2_lineBetween_17 rfl (lv_at hl 3 rfl) ?_
  refine va_lald (tys := gT G) hx hb hE.K hP 4 1 rfl rfl h1 dX2_lineBetween_18 ?_
  refine lv_aload_n hx hb dX2_lineBetween_19 rfl (lv_at hl 1 rfl) ?_
  refine va_get (D := gD G) (cl := vwCl) (tys := gT G) (ci := 4) (v := .ref (b 4)) (C := RX2) (T := TX2) (N := 12) hx hb hw inB_X2 hown hE.K hP 0 rfl rfl 4 (by decide) (hw _ bw1167) (fun _ h9 => h9) rfl dX2_lineBetween_20 ?_
  refine lv_iload_n hx hb dX2_lineBetween_23 rfl (lv_at hl 2 rfl) ?_
  refine va_lald (tys := gT G) hx hb hE.K hP 4 1 rfl rfl h0 dX2_lineBetween_24 ?_
  refine lv_lsub hx hb dX2_lineBetween_25 ?_
  refine lv_lstore (lv' := [(6, .long ((mt T p1.toNatClampNeg) - (mt T p0.toNatClampNeg))), (4, .long ((fX2_dayNow T p1) - (fX2_dayNow T p0))), (0, .ref (b 0)), (1, .int p0), (2, .int p1), (3, .int p2)]) hx hb dX2_lineBetween_26 hl (Nat.le_of_ble_eq_true rfl) rfl (fun ls hl => ?_)
  refine lv_lload hx hb dX2_lineBetween_28 (lv_at hl 1 rfl) ?_
  refine lv_lconst (v := (0 : Int64)) hx hb dX2_lineBetween_30 (by decide) ?_
  refine W.lcmp hx hb dX2_lineBetween_31 ?_
  refine lv_if_le (tgt := 56) hx hb dX2_lineBetween_32 (by decide) (fun c_1 => ?_) (fun c_1 => ?_)
  · refine lv_lload hx hb dX2_lineBetween_56 (lv_at hl 1 rfl) ?_
    refine lv_lconst (v := (0 : Int64)) hx hb dX2_lineBetween_58 (by decide) ?_
    refine W.lcmp hx hb dX2_lineBetween_59 ?_
    refine lv_if_ge (tgt := 84) hx hb dX2_lineBetween_60 (by decide) (fun c_2 => ?_) (fun c_2 => ?_)
    · refine lv_iload_n hx hb dX2_lineBetween_84 rfl (lv_at hl 5 rfl) ?_
      refine lv_bipush (v := (8 : Int32)) hx hb dX2_lineBetween_85 (by decide) ?_
      refine lv_icmp_ne (tgt := 97) hx hb dX2_lineBetween_87 (by decide) (fun c_3 => ?_) (fun c_3 => ?_)
      · refine lv_lload hx hb dX2_lineBetween_97 (lv_at hl 1 rfl) ?_
        refine lv_ldc2 (v := (86400000000000 : Int64)) hx hb hown (hw _ bw1360) dX2_lineBetween_99 ?_
        refine lv_iload_n hx hb dX2_lineBetween_102 rfl (lv_at hl 5 rfl) ?_
        refine rcSl (as := [.int p2]) (rest := [.long (86400000000000 : Int64), .long ((fX2_dayNow T p1) - (fX2_dayNow T p0))]) C (c_X2_nanosOf l G p2) F_X2_nanosOf rfl bw1354 bw1355 hE vpn hl.1 dX2_lineBetween_103 ⟨Nat.le_of_ble_eq_true rfl, Nat.le_of_ble_eq_true rfl⟩ rfl (Nat.le_of_ble_eq_true rfl) ⟨Nat.zero_le _, Nat.zero_le _⟩ ?_
        refine lv_ldiv hx hb dX2_lineBetween_106 (nz_nanosOf p2) ?_
        refine lv_lmul hx hb dX2_lineBetween_107 ?_
        refine lv_lload hx hb dX2_lineBetween_108 (lv_at hl 0 rfl) ?_
        refine lv_iload_n hx hb dX2_lineBetween_110 rfl (lv_at hl 5 rfl) ?_
        refine rcSl (as := [.int p2]) (rest := [.long ((mt T p1.toNatClampNeg) - (mt T p0.toNatClampNeg)), .long (((fX2_dayNow T p1) - (fX2_dayNow T p0)) * ((86400000000000 : Int64) / (fX2_nanosOf p2)))]) C (c_X2_nanosOf l G p2) F_X2_nanosOf rfl bw1354 bw1355 hE vpn hl.1 dX2_lineBetween_111 ⟨Nat.le_of_ble_eq_true rfl, Nat.le_of_ble_eq_true rfl⟩ rfl (Nat.le_of_ble_eq_true rfl) ⟨Nat.zero_le _, Nat.zero_le _⟩ ?_
        refine lv_ldiv hx hb dX2_lineBetween_114 (nz_nanosOf p2) ?_
        refine lv_ladd hx hb dX2_lineBetween_115 ?_
        exact re_l hx hb hr hk dX2_lineBetween_116 (el (Eq.trans (if_pos c_1) (Eq.trans (if_pos c_2) (if_neg c_3))))
      · refine lv_lload hx hb dX2_lineBetween_90 (lv_at hl 1 rfl) ?_
        refine lv_ldc2 (v := (7 : Int64)) hx hb hown (hw _ bw1274) dX2_lineBetween_92 ?_
        refine lv_ldiv hx hb dX2_lineBetween_95 (by decide) ?_
        exact re_l hx hb hr hk dX2_lineBetween_96 (el (Eq.trans (if_pos c_1) (Eq.trans (if_pos c_2) (if_pos c_3))))
    · refine lv_lload hx hb dX2_lineBetween_63 (lv_at hl 0 rfl) ?_
      refine lv_lconst (v := (0 : Int64)) hx hb dX2_lineBetween_65 (by decide) ?_
      refine W.lcmp hx hb dX2_lineBetween_66 ?_
      refine lv_if_le (tgt := 84) hx hb dX2_lineBetween_67 (by decide) (fun c_4 => ?_) (fun c_4 => ?_)
      · refine lv_iload_n hx hb dX2_lineBetween_84 rfl (lv_at hl 5 rfl) ?_
        refine lv_bipush (v := (8 : Int32)) hx hb dX2_lineBetween_85 (by decide) ?_
        refine lv_icmp_ne (tgt := 97) hx hb dX2_lineBetween_87 (by decide) (fun c_5 => ?_) (fun c_5 => ?_)
        · refine lv_lload hx hb dX2_lineBetween_97 (lv_at hl 1 rfl) ?_
          refine lv_ldc2 (v := (86400000000000 : Int64)) hx hb hown (hw _ bw1360) dX2_lineBetween_99 ?_
          refine lv_iload_n hx hb dX2_lineBetween_102 rfl (lv_at hl 5 rfl) ?_
          refine rcSl (as := [.int p2]) (rest := [.long (86400000000000 : Int64), .long ((fX2_dayNow T p1) - (fX2_dayNow T p0))]) C (c_X2_nanosOf l G p2) F_X2_nanosOf rfl bw1354 bw1355 hE vpn hl.1 dX2_lineBetween_103 ⟨Nat.le_of_ble_eq_true rfl, Nat.le_of_ble_eq_true rfl⟩ rfl (Nat.le_of_ble_eq_true rfl) ⟨Nat.zero_le _, Nat.zero_le _⟩ ?_
          refine lv_ldiv hx hb dX2_lineBetween_106 (nz_nanosOf p2) ?_
          refine lv_lmul hx hb dX2_lineBetween_107 ?_
          refine lv_lload hx hb dX2_lineBetween_108 (lv_at hl 0 rfl) ?_
          refine lv_iload_n hx hb dX2_lineBetween_110 rfl (lv_at hl 5 rfl) ?_
          refine rcSl (as := [.int p2]) (rest := [.long ((mt T p1.toNatClampNeg) - (mt T p0.toNatClampNeg)), .long (((fX2_dayNow T p1) - (fX2_dayNow T p0)) * ((86400000000000 : Int64) / (fX2_nanosOf p2)))]) C (c_X2_nanosOf l G p2) F_X2_nanosOf rfl bw1354 bw1355 hE vpn hl.1 dX2_lineBetween_111 ⟨Nat.le_of_ble_eq_true rfl, Nat.le_of_ble_eq_true rfl⟩ rfl (Nat.le_of_ble_eq_true rfl) ⟨Nat.zero_le _, Nat.zero_le _⟩ ?_
          refine lv_ldiv hx hb dX2_lineBetween_114 (nz_nanosOf p2) ?_
          refine lv_ladd hx hb dX2_lineBetween_115 ?_
          exact re_l hx hb hr hk dX2_lineBetween_116 (el (Eq.trans (if_pos c_1) (Eq.trans (if_neg c_2) (Eq.trans (if_pos c_4) (if_neg c_5)))))
        · refine lv_lload hx hb dX2_lineBetween_90 (lv_at hl 1 rfl) ?_
          refine lv_ldc2 (v := (7 : Int64)) hx hb hown (hw _ bw1274) dX2_lineBetween_92 ?_
          refine lv_ldiv hx hb dX2_lineBetween_95 (by decide) ?_
          exact re_l hx hb hr hk dX2_lineBetween_96 (el (Eq.trans (if_pos c_1) (Eq.trans (if_neg c_2) (Eq.trans (if_pos c_4) (if_pos c_5)))))
      · refine lv_lload hx hb dX2_lineBetween_70 (lv_at hl 1 rfl) ?_
        refine lv_lconst (v := (1 : Int64)) hx hb dX2_lineBetween_72 (by decide) ?_
        refine lv_ladd hx hb dX2_lineBetween_73 ?_
        refine lv_lstore (lv' := [(4, .long (((fX2_dayNow T p1) - (fX2_dayNow T p0)) + (1 : Int64))), (6, .long ((mt T p1.toNatClampNeg) - (mt T p0.toNatClampNeg))), (0, .ref (b 0)), (1, .int p0), (2, .int p1), (3, .int p2)]) hx hb dX2_lineBetween_74 hl (Nat.le_of_ble_eq_true rfl) rfl (fun ls hl => ?_)
        refine lv_lload hx hb dX2_lineBetween_76 (lv_at hl 1 rfl) ?_
        refine lv_ldc2 (v := (86400000000000 : Int64)) hx hb hown (hw _ bw1360) dX2_lineBetween_78 ?_
        refine lv_lsub hx hb dX2_lineBetween_81 ?_
        refine lv_lstore (lv' := [(6, .long (((mt T p1.toNatClampNeg) - (mt T p0.toNatClampNeg)) - (86400000000000 : Int64))), (4, .long (((fX2_dayNow T p1) - (fX2_dayNow T p0)) + (1 : Int64))), (0, .ref (b 0)), (1, .int p0), (2, .int p1), (3, .int p2)]) hx hb dX2_lineBetween_82 hl (Nat.le_of_ble_eq_true rfl) rfl (fun ls hl => ?_)
        refine lv_iload_n hx hb dX2_lineBetween_84 rfl (lv_at hl 5 rfl) ?_
        refine lv_bipush (v := (8 : Int32)) hx hb dX2_lineBetween_85 (by decide) ?_
        refine lv_icmp_ne (tgt := 97) hx hb dX2_lineBetween_87 (by decide) (fun c_6 => ?_) (fun c_6 => ?_)
        · refine lv_lload hx hb dX2_lineBetween_97 (lv_at hl 1 rfl) ?_
          refine lv_ldc2 (v := (86400000000000 : Int64)) hx hb hown (hw _ bw1360) dX2_lineBetween_99 ?_
          refine lv_iload_n hx hb dX2_lineBetween_102 rfl (lv_at hl 5 rfl) ?_
          refine rcSl (as := [.int p2]) (rest := [.long (86400000000000 : Int64), .long (((fX2_dayNow T p1) - (fX2_dayNow T p0)) + (1 : Int64))]) C (c_X2_nanosOf l G p2) F_X2_nanosOf rfl bw1354 bw1355 hE vpn hl.1 dX2_lineBetween_103 ⟨Nat.le_of_ble_eq_true rfl, Nat.le_of_ble_eq_true rfl⟩ rfl (Nat.le_of_ble_eq_true rfl) ⟨Nat.zero_le _, Nat.zero_le _⟩ ?_
          refine lv_ldiv hx hb dX2_lineBetween_106 (nz_nanosOf p2) ?_
          refine lv_lmul hx hb dX2_lineBetween_107 ?_
          refine lv_lload hx hb dX2_lineBetween_108 (lv_at hl 0 rfl) ?_
          refine lv_iload_n hx hb dX2_lineBetween_110 rfl (lv_at hl 5 rfl) ?_
          refine rcSl (as := [.int p2]) (rest := [.long (((mt T p1.toNatClampNeg) - (mt T p0.toNatClampNeg)) - (86400000000000 : Int64)), .long ((((fX2_dayNow T p1) - (fX2_dayNow T p0)) + (1 : Int64)) * ((86400000000000 : Int64) / (fX2_nanosOf p2)))]) C (c_X2_nanosOf l G p2) F_X2_nanosOf rfl bw1354 bw1355 hE vpn hl.1 dX2_lineBetween_111 ⟨Nat.le_of_ble_eq_true rfl, Nat.le_of_ble_eq_true rfl⟩ rfl (Nat.le_of_ble_eq_true rfl) ⟨Nat.zero_le _, Nat.zero_le _⟩ ?_
          refine lv_ldiv hx hb dX2_lineBetween_114 (nz_nanosOf p2) ?_
          refine lv_ladd hx hb dX2_lineBetween_115 ?_
          exact re_l hx hb hr hk dX2_lineBetween_116 (el (Eq.trans (if_pos c_1) (Eq.trans (if_neg c_2) (Eq.trans (if_neg c_4) (if_neg c_6)))))
        · refine lv_lload hx hb dX2_lineBetween_90 (lv_at hl 1 rfl) ?_
          refine lv_ldc2 (v := (7 : Int64)) hx hb hown (hw _ bw1274) dX2_lineBetween_92 ?_
          refine lv_ldiv hx hb dX2_lineBetween_95 (by decide) ?_
          exact re_l hx hb hr hk dX2_lineBetween_96 (el (Eq.trans (if_pos c_1) (Eq.trans (if_neg c_2) (Eq.trans (if_neg c_4) (if_pos c_6)))))
  · refine lv_lload hx hb dX2_lineBetween_35 (lv_at hl 0 rfl) ?_
    refine lv_lconst (v := (0 : Int64)) hx hb dX2_lineBetween_37 (by decide) ?_
    refine W.lcmp hx hb dX2_lineBetween_38 ?_
    refine lv_if_ge (tgt := 56) hx hb dX2_lineBetween_39 (by decide) (fun c_7 => ?_) (fun c_7 => ?_)
    · refine lv_lload hx hb dX2_lineBetween_56 (lv_at hl 1 rfl) ?_
      refine lv_lconst (v := (0 : Int64)) hx hb dX2_lineBetween_58 (by decide) ?_
      refine W.lcmp hx hb dX2_lineBetween_59 ?_
      refine lv_if_ge (tgt := 84) hx hb dX2_lineBetween_60 (by decide) (fun c_8 => ?_) (fun c_8 => ?_)
      · refine lv_iload_n hx hb dX2_lineBetween_84 rfl (lv_at hl 5 rfl) ?_
        refine lv_bipush (v := (8 : Int32)) hx hb dX2_lineBetween_85 (by decide) ?_
        refine lv_icmp_ne (tgt := 97) hx hb dX2_lineBetween_87 (by decide) (fun c_9 => ?_) (fun c_9 => ?_)
        · refine lv_lload hx hb dX2_lineBetween_97 (lv_at hl 1 rfl) ?_
          refine lv_ldc2 (v := (86400000000000 : Int64)) hx hb hown (hw _ bw1360) dX2_lineBetween_99 ?_
          refine lv_iload_n hx hb dX2_lineBetween_102 rfl (lv_at hl 5 rfl) ?_
          refine rcSl (as := [.int p2]) (rest := [.long (86400000000000 : Int64), .long ((fX2_dayNow T p1) - (fX2_dayNow T p0))]) C (c_X2_nanosOf l G p2) F_X2_nanosOf rfl bw1354 bw1355 hE vpn hl.1 dX2_lineBetween_103 ⟨Nat.le_of_ble_eq_true rfl, Nat.le_of_ble_eq_true rfl⟩ rfl (Nat.le_of_ble_eq_true rfl) ⟨Nat.zero_le _, Nat.zero_le _⟩ ?_
          refine lv_ldiv hx hb dX2_lineBetween_106 (nz_nanosOf p2) ?_
          refine lv_lmul hx hb dX2_lineBetween_107 ?_
          refine lv_lload hx hb dX2_lineBetween_108 (lv_at hl 0 rfl) ?_
          refine lv_iload_n hx hb dX2_lineBetween_110 rfl (lv_at hl 5 rfl) ?_
          refine rcSl (as := [.int p2]) (rest := [.long ((mt T p1.toNatClampNeg) - (mt T p0.toNatClampNeg)), .long (((fX2_dayNow T p1) - (fX2_dayNow T p0)) * ((86400000000000 : Int64) / (fX2_nanosOf p2)))]) C (c_X2_nanosOf l G p2) F_X2_nanosOf rfl bw1354 bw1355 hE vpn hl.1 dX2_lineBetween_111 ⟨Nat.le_of_ble_eq_true rfl, Nat.le_of_ble_eq_true rfl⟩ rfl (Nat.le_of_ble_eq_true rfl) ⟨Nat.zero_le _, Nat.zero_le _⟩ ?_
          refine lv_ldiv hx hb dX2_lineBetween_114 (nz_nanosOf p2) ?_
          refine lv_ladd hx hb dX2_lineBetween_115 ?_
          exact re_l hx hb hr hk dX2_lineBetween_116 (el (Eq.trans (if_neg c_1) (Eq.trans (if_pos c_7) (Eq.trans (if_pos c_8) (if_neg c_9)))))
        · refine lv_lload hx hb dX2_lineBetween_90 (lv_at hl 1 rfl) ?_
          refine lv_ldc2 (v := (7 : Int64)) hx hb hown (hw _ bw1274) dX2_lineBetween_92 ?_
          refine lv_ldiv hx hb dX2_lineBetween_95 (by decide) ?_
          exact re_l hx hb hr hk dX2_lineBetween_96 (el (Eq.trans (if_neg c_1) (Eq.trans (if_pos c_7) (Eq.trans (if_pos c_8) (if_pos c_9)))))
      · refine lv_lload hx hb dX2_lineBetween_63 (lv_at hl 0 rfl) ?_
        refine lv_lconst (v := (0 : Int64)) hx hb dX2_lineBetween_65 (by decide) ?_
        refine W.lcmp hx hb dX2_lineBetween_66 ?_
        refine lv_if_le (tgt := 84) hx hb dX2_lineBetween_67 (by decide) (fun c_10 => ?_) (fun c_10 => ?_)
        · refine lv_iload_n hx hb dX2_lineBetween_84 rfl (lv_at hl 5 rfl) ?_
          refine lv_bipush (v := (8 : Int32)) hx hb dX2_lineBetween_85 (by decide) ?_
          refine lv_icmp_ne (tgt := 97) hx hb dX2_lineBetween_87 (by decide) (fun c_11 => ?_) (fun c_11 => ?_)
          · refine lv_lload hx hb dX2_lineBetween_97 (lv_at hl 1 rfl) ?_
            refine lv_ldc2 (v := (86400000000000 : Int64)) hx hb hown (hw _ bw1360) dX2_lineBetween_99 ?_
            refine lv_iload_n hx hb dX2_lineBetween_102 rfl (lv_at hl 5 rfl) ?_
            refine rcSl (as := [.int p2]) (rest := [.long (86400000000000 : Int64), .long ((fX2_dayNow T p1) - (fX2_dayNow T p0))]) C (c_X2_nanosOf l G p2) F_X2_nanosOf rfl bw1354 bw1355 hE vpn hl.1 dX2_lineBetween_103 ⟨Nat.le_of_ble_eq_true rfl, Nat.le_of_ble_eq_true rfl⟩ rfl (Nat.le_of_ble_eq_true rfl) ⟨Nat.zero_le _, Nat.zero_le _⟩ ?_
            refine lv_ldiv hx hb dX2_lineBetween_106 (nz_nanosOf p2) ?_
            refine lv_lmul hx hb dX2_lineBetween_107 ?_
            refine lv_lload hx hb dX2_lineBetween_108 (lv_at hl 0 rfl) ?_
            refine lv_iload_n hx hb dX2_lineBetween_110 rfl (lv_at hl 5 rfl) ?_
            refine rcSl (as := [.int p2]) (rest := [.long ((mt T p1.toNatClampNeg) - (mt T p0.toNatClampNeg)), .long (((fX2_dayNow T p1) - (fX2_dayNow T p0)) * ((86400000000000 : Int64) / (fX2_nanosOf p2)))]) C (c_X2_nanosOf l G p2) F_X2_nanosOf rfl bw1354 bw1355 hE vpn hl.1 dX2_lineBetween_111 ⟨Nat.le_of_ble_eq_true rfl, Nat.le_of_ble_eq_true rfl⟩ rfl (Nat.le_of_ble_eq_true rfl) ⟨Nat.zero_le _, Nat.zero_le _⟩ ?_
            refine lv_ldiv hx hb dX2_lineBetween_114 (nz_nanosOf p2) ?_
            refine lv_ladd hx hb dX2_lineBetween_115 ?_
            exact re_l hx hb hr hk dX2_lineBetween_116 (el (Eq.trans (if_neg c_1) (Eq.trans (if_pos c_7) (Eq.trans (if_neg c_8) (Eq.trans (if_pos c_10) (if_neg c_11))))))
          · refine lv_lload hx hb dX2_lineBetween_90 (lv_at hl 1 rfl) ?_
            refine lv_ldc2 (v := (7 : Int64)) hx hb hown (hw _ bw1274) dX2_lineBetween_92 ?_
            refine lv_ldiv hx hb dX2_lineBetween_95 (by decide) ?_
            exact re_l hx hb hr hk dX2_lineBetween_96 (el (Eq.trans (if_neg c_1) (Eq.trans (if_pos c_7) (Eq.trans (if_neg c_8) (Eq.trans (if_pos c_10) (if_pos c_11))))))
        · refine lv_lload hx hb dX2_lineBetween_70 (lv_at hl 1 rfl) ?_
          refine lv_lconst (v := (1 : Int64)) hx hb dX2_lineBetween_72 (by decide) ?_
          refine lv_ladd hx hb dX2_lineBetween_73 ?_
          refine lv_lstore (lv' := [(4, .long (((fX2_dayNow T p1) - (fX2_dayNow T p0)) + (1 : Int64))), (6, .long ((mt T p1.toNatClampNeg) - (mt T p0.toNatClampNeg))), (0, .ref (b 0)), (1, .int p0), (2, .int p1), (3, .int p2)]) hx hb dX2_lineBetween_74 hl (Nat.le_of_ble_eq_true rfl) rfl (fun ls hl => ?_)
          refine lv_lload hx hb dX2_lineBetween_76 (lv_at hl 1 rfl) ?_
          refine lv_ldc2 (v := (86400000000000 : Int64)) hx hb hown (hw _ bw1360) dX2_lineBetween_78 ?_
          refine lv_lsub hx hb dX2_lineBetween_81 ?_
          refine lv_lstore (lv' := [(6, .long (((mt T p1.toNatClampNeg) - (mt T p0.toNatClampNeg)) - (86400000000000 : Int64))), (4, .long (((fX2_dayNow T p1) - (fX2_dayNow T p0)) + (1 : Int64))), (0, .ref (b 0)), (1, .int p0), (2, .int p1), (3, .int p2)]) hx hb dX2_lineBetween_82 hl (Nat.le_of_ble_eq_true rfl) rfl (fun ls hl => ?_)
          refine lv_iload_n hx hb dX2_lineBetween_84 rfl (lv_at hl 5 rfl) ?_
          refine lv_bipush (v := (8 : Int32)) hx hb dX2_lineBetween_85 (by decide) ?_
          refine lv_icmp_ne (tgt := 97) hx hb dX2_lineBetween_87 (by decide) (fun c_12 => ?_) (fun c_12 => ?_)
          · refine lv_lload hx hb dX2_lineBetween_97 (lv_at hl 1 rfl) ?_
            refine lv_ldc2 (v := (86400000000000 : Int64)) hx hb hown (hw _ bw1360) dX2_lineBetween_99 ?_
            refine lv_iload_n hx hb dX2_lineBetween_102 rfl (lv_at hl 5 rfl) ?_
            refine rcSl (as := [.int p2]) (rest := [.long (86400000000000 : Int64), .long (((fX2_dayNow T p1) - (fX2_dayNow T p0)) + (1 : Int64))]) C (c_X2_nanosOf l G p2) F_X2_nanosOf rfl bw1354 bw1355 hE vpn hl.1 dX2_lineBetween_103 ⟨Nat.le_of_ble_eq_true rfl, Nat.le_of_ble_eq_true rfl⟩ rfl (Nat.le_of_ble_eq_true rfl) ⟨Nat.zero_le _, Nat.zero_le _⟩ ?_
            refine lv_ldiv hx hb dX2_lineBetween_106 (nz_nanosOf p2) ?_
            refine lv_lmul hx hb dX2_lineBetween_107 ?_
            refine lv_lload hx hb dX2_lineBetween_108 (lv_at hl 0 rfl) ?_
            refine lv_iload_n hx hb dX2_lineBetween_110 rfl (lv_at hl 5 rfl) ?_
            refine rcSl (as := [.int p2]) (rest := [.long (((mt T p1.toNatClampNeg) - (mt T p0.toNatClampNeg)) - (86400000000000 : Int64)), .long ((((fX2_dayNow T p1) - (fX2_dayNow T p0)) + (1 : Int64)) * ((86400000000000 : Int64) / (fX2_nanosOf p2)))]) C (c_X2_nanosOf l G p2) F_X2_nanosOf rfl bw1354 bw1355 hE vpn hl.1 dX2_lineBetween_111 ⟨Nat.le_of_ble_eq_true rfl, Nat.le_of_ble_eq_true rfl⟩ rfl (Nat.le_of_ble_eq_true rfl) ⟨Nat.zero_le _, Nat.zero_le _⟩ ?_
            refine lv_ldiv hx hb dX2_lineBetween_114 (nz_nanosOf p2) ?_
            refine lv_ladd hx hb dX2_lineBetween_115 ?_
            exact re_l hx hb hr hk dX2_lineBetween_116 (el (Eq.trans (if_neg c_1) (Eq.trans (if_pos c_7) (Eq.trans (if_neg c_8) (Eq.trans (if_neg c_10) (if_neg c_12))))))
          · refine lv_lload hx hb dX2_lineBetween_90 (lv_at hl 1 rfl) ?_
            refine lv_ldc2 (v := (7 : Int64)) hx hb hown (hw _ bw1274) dX2_lineBetween_92 ?_
            refine lv_ldiv hx hb dX2_lineBetween_95 (by decide) ?_
            exact re_l hx hb hr hk dX2_lineBetween_96 (el (Eq.trans (if_neg c_1) (Eq.trans (if_pos c_7) (Eq.trans (if_neg c_8) (Eq.trans (if_neg c_10) (if_pos c_12))))))
    · refine lv_lload hx hb dX2_lineBetween_42 (lv_at hl 1 rfl) ?_
      refine lv_lconst (v := (1 : Int64)) hx hb dX2_lineBetween_44 (by decide) ?_
      refine lv_lsub hx hb dX2_lineBetween_45 ?_
      refine lv_lstore (lv' := [(4, .long (((fX2_dayNow T p1) - (fX2_dayNow T p0)) - (1 : Int64))), (6, .long ((mt T p1.toNatClampNeg) - (mt T p0.toNatClampNeg))), (0, .ref (b 0)), (1, .int p0), (2, .int p1), (3, .int p2)]) hx hb dX2_lineBetween_46 hl (Nat.le_of_ble_eq_true rfl) rfl (fun ls hl => ?_)
      refine lv_lload hx hb dX2_lineBetween_48 (lv_at hl 1 rfl) ?_
      refine lv_ldc2 (v := (86400000000000 : Int64)) hx hb hown (hw _ bw1360) dX2_lineBetween_50 ?_
      refine lv_ladd hx hb dX2_lineBetween_53 ?_
      refine lv_lstore (lv' := [(6, .long (((mt T p1.toNatClampNeg) - (mt T p0.toNatClampNeg)) + (86400000000000 : Int64))), (4, .long (((fX2_dayNow T p1) - (fX2_dayNow T p0)) - (1 : Int64))), (0, .ref (b 0)), (1, .int p0), (2, .int p1), (3, .int p2)]) hx hb dX2_lineBetween_54 hl (Nat.le_of_ble_eq_true rfl) rfl (fun ls hl => ?_)
      refine lv_lload hx hb dX2_lineBetween_56 (lv_at hl 1 rfl) ?_
      refine lv_lconst (v := (0 : Int64)) hx hb dX2_lineBetween_58 (by decide) ?_
      refine W.lcmp hx hb dX2_lineBetween_59 ?_
      refine lv_if_ge (tgt := 84) hx hb dX2_lineBetween_60 (by decide) (fun c_13 => ?_) (fun c_13 => ?_)
      · refine lv_iload_n hx hb dX2_lineBetween_84 rfl (lv_at hl 5 rfl) ?_
        refine lv_bipush (v := (8 : Int32)) hx hb dX2_lineBetween_85 (by decide) ?_
        refine lv_icmp_ne (tgt := 97) hx hb dX2_lineBetween_87 (by decide) (fun c_14 => ?_) (fun c_14 => ?_)
        · refine lv_lload hx hb dX2_lineBetween_97 (lv_at hl 1 rfl) ?_
          refine lv_ldc2 (v := (86400000000000 : Int64)) hx hb hown (hw _ bw1360) dX2_lineBetween_99 ?_
          refine lv_iload_n hx hb dX2_lineBetween_102 rfl (lv_at hl 5 rfl) ?_
          refine rcSl (as := [.int p2]) (rest := [.long (86400000000000 : Int64), .long (((fX2_dayNow T p1) - (fX2_dayNow T p0)) - (1 : Int64))]) C (c_X2_nanosOf l G p2) F_X2_nanosOf rfl bw1354 bw1355 hE vpn hl.1 dX2_lineBetween_103 ⟨Nat.le_of_ble_eq_true rfl, Nat.le_of_ble_eq_true rfl⟩ rfl (Nat.le_of_ble_eq_true rfl) ⟨Nat.zero_le _, Nat.zero_le _⟩ ?_
          refine lv_ldiv hx hb dX2_lineBetween_106 (nz_nanosOf p2) ?_
          refine lv_lmul hx hb dX2_lineBetween_107 ?_
          refine lv_lload hx hb dX2_lineBetween_108 (lv_at hl 0 rfl) ?_
          refine lv_iload_n hx hb dX2_lineBetween_110 rfl (lv_at hl 5 rfl) ?_
          refine rcSl (as := [.int p2]) (rest := [.long (((mt T p1.toNatClampNeg) - (mt T p0.toNatClampNeg)) + (86400000000000 : Int64)), .long ((((fX2_dayNow T p1) - (fX2_dayNow T p0)) - (1 : Int64)) * ((86400000000000 : Int64) / (fX2_nanosOf p2)))]) C (c_X2_nanosOf l G p2) F_X2_nanosOf rfl bw1354 bw1355 hE vpn hl.1 dX2_lineBetween_111 ⟨Nat.le_of_ble_eq_true rfl, Nat.le_of_ble_eq_true rfl⟩ rfl (Nat.le_of_ble_eq_true rfl) ⟨Nat.zero_le _, Nat.zero_le _⟩ ?_
          refine lv_ldiv hx hb dX2_lineBetween_114 (nz_nanosOf p2) ?_
          refine lv_ladd hx hb dX2_lineBetween_115 ?_
          exact re_l hx hb hr hk dX2_lineBetween_116 (el (Eq.trans (if_neg c_1) (Eq.trans (if_neg c_7) (Eq.trans (if_pos c_13) (if_neg c_14)))))
        · refine lv_lload hx hb dX2_lineBetween_90 (lv_at hl 1 rfl) ?_
          refine lv_ldc2 (v := (7 : Int64)) hx hb hown (hw _ bw1274) dX2_lineBetween_92 ?_
          refine lv_ldiv hx hb dX2_lineBetween_95 (by decide) ?_
          exact re_l hx hb hr hk dX2_lineBetween_96 (el (Eq.trans (if_neg c_1) (Eq.trans (if_neg c_7) (Eq.trans (if_pos c_13) (if_pos c_14)))))
      · refine lv_lload hx hb dX2_lineBetween_63 (lv_at hl 0 rfl) ?_
        refine lv_lconst (v := (0 : Int64)) hx hb dX2_lineBetween_65 (by decide) ?_
        refine W.lcmp hx hb dX2_lineBetween_66 ?_
        refine lv_if_le (tgt := 84) hx hb dX2_lineBetween_67 (by decide) (fun c_15 => ?_) (fun c_15 => ?_)
        · refine lv_iload_n hx hb dX2_lineBetween_84 rfl (lv_at hl 5 rfl) ?_
          refine lv_bipush (v := (8 : Int32)) hx hb dX2_lineBetween_85 (by decide) ?_
          refine lv_icmp_ne (tgt := 97) hx hb dX2_lineBetween_87 (by decide) (fun c_16 => ?_) (fun c_16 => ?_)
          · refine lv_lload hx hb dX2_lineBetween_97 (lv_at hl 1 rfl) ?_
            refine lv_ldc2 (v := (86400000000000 : Int64)) hx hb hown (hw _ bw1360) dX2_lineBetween_99 ?_
            refine lv_iload_n hx hb dX2_lineBetween_102 rfl (lv_at hl 5 rfl) ?_
            refine rcSl (as := [.int p2]) (rest := [.long (86400000000000 : Int64), .long (((fX2_dayNow T p1) - (fX2_dayNow T p0)) - (1 : Int64))]) C (c_X2_nanosOf l G p2) F_X2_nanosOf rfl bw1354 bw1355 hE vpn hl.1 dX2_lineBetween_103 ⟨Nat.le_of_ble_eq_true rfl, Nat.le_of_ble_eq_true rfl⟩ rfl (Nat.le_of_ble_eq_true rfl) ⟨Nat.zero_le _, Nat.zero_le _⟩ ?_
            refine lv_ldiv hx hb dX2_lineBetween_106 (nz_nanosOf p2) ?_
            refine lv_lmul hx hb dX2_lineBetween_107 ?_
            refine lv_lload hx hb dX2_lineBetween_108 (lv_at hl 0 rfl) ?_
            refine lv_iload_n hx hb dX2_lineBetween_110 rfl (lv_at hl 5 rfl) ?_
            refine rcSl (as := [.int p2]) (rest := [.long (((mt T p1.toNatClampNeg) - (mt T p0.toNatClampNeg)) + (86400000000000 : Int64)), .long ((((fX2_dayNow T p1) - (fX2_dayNow T p0)) - (1 : Int64)) * ((86400000000000 : Int64) / (fX2_nanosOf p2)))]) C (c_X2_nanosOf l G p2) F_X2_nanosOf rfl bw1354 bw1355 hE vpn hl.1 dX2_lineBetween_111 ⟨Nat.le_of_ble_eq_true rfl, Nat.le_of_ble_eq_true rfl⟩ rfl (Nat.le_of_ble_eq_true rfl) ⟨Nat.zero_le _, Nat.zero_le _⟩ ?_
            refine lv_ldiv hx hb dX2_lineBetween_114 (nz_nanosOf p2) ?_
            refine lv_ladd hx hb dX2_lineBetween_115 ?_
            exact re_l hx hb hr hk dX2_lineBetween_116 (el (Eq.trans (if_neg c_1) (Eq.trans (if_neg c_7) (Eq.trans (if_neg c_13) (Eq.trans (if_pos c_15) (if_neg c_16))))))
          · refine lv_lload hx hb dX2_lineBetween_90 (lv_at hl 1 rfl) ?_
            refine lv_ldc2 (v := (7 : Int64)) hx hb hown (hw _ bw1274) dX2_lineBetween_92 ?_
            refine lv_ldiv hx hb dX2_lineBetween_95 (by decide) ?_
            exact re_l hx hb hr hk dX2_lineBetween_96 (el (Eq.trans (if_neg c_1) (Eq.trans (if_neg c_7) (Eq.trans (if_neg c_13) (Eq.trans (if_pos c_15) (if_pos c_16))))))
        · refine lv_lload hx hb dX2_lineBetween_70 (lv_at hl 1 rfl) ?_
          refine lv_lconst (v := (1 : Int64)) hx hb dX2_lineBetween_72 (by decide) ?_
          refine lv_ladd hx hb dX2_lineBetween_73 ?_
          refine lv_lstore (lv' := [(4, .long ((((fX2_dayNow T p1) - (fX2_dayNow T p0)) - (1 : Int64)) + (1 : Int64))), (6, .long (((mt T p1.toNatClampNeg) - (mt T p0.toNatClampNeg)) + (86400000000000 : Int64))), (0, .ref (b 0)), (1, .int p0), (2, .int p1), (3, .int p2)]) hx hb dX2_lineBetween_74 hl (Nat.le_of_ble_eq_true rfl) rfl (fun ls hl => ?_)
          refine lv_lload hx hb dX2_lineBetween_76 (lv_at hl 1 rfl) ?_
          refine lv_ldc2 (v := (86400000000000 : Int64)) hx hb hown (hw _ bw1360) dX2_lineBetween_78 ?_
          refine lv_lsub hx hb dX2_lineBetween_81 ?_
          refine lv_lstore (lv' := [(6, .long ((((mt T p1.toNatClampNeg) - (mt T p0.toNatClampNeg)) + (86400000000000 : Int64)) - (86400000000000 : Int64))), (4, .long ((((fX2_dayNow T p1) - (fX2_dayNow T p0)) - (1 : Int64)) + (1 : Int64))), (0, .ref (b 0)), (1, .int p0), (2, .int p1), (3, .int p2)]) hx hb dX2_lineBetween_82 hl (Nat.le_of_ble_eq_true rfl) rfl (fun ls hl => ?_)
          refine lv_iload_n hx hb dX2_lineBetween_84 rfl (lv_at hl 5 rfl) ?_
          refine lv_bipush (v := (8 : Int32)) hx hb dX2_lineBetween_85 (by decide) ?_
          refine lv_icmp_ne (tgt := 97) hx hb dX2_lineBetween_87 (by decide) (fun c_17 => ?_) (fun c_17 => ?_)
          · refine lv_lload hx hb dX2_lineBetween_97 (lv_at hl 1 rfl) ?_
            refine lv_ldc2 (v := (86400000000000 : Int64)) hx hb hown (hw _ bw1360) dX2_lineBetween_99 ?_
            refine lv_iload_n hx hb dX2_lineBetween_102 rfl (lv_at hl 5 rfl) ?_
            refine rcSl (as := [.int p2]) (rest := [.long (86400000000000 : Int64), .long ((((fX2_dayNow T p1) - (fX2_dayNow T p0)) - (1 : Int64)) + (1 : Int64))]) C (c_X2_nanosOf l G p2) F_X2_nanosOf rfl bw1354 bw1355 hE vpn hl.1 dX2_lineBetween_103 ⟨Nat.le_of_ble_eq_true rfl, Nat.le_of_ble_eq_true rfl⟩ rfl (Nat.le_of_ble_eq_true rfl) ⟨Nat.zero_le _, Nat.zero_le _⟩ ?_
            refine lv_ldiv hx hb dX2_lineBetween_106 (nz_nanosOf p2) ?_
            refine lv_lmul hx hb dX2_lineBetween_107 ?_
            refine lv_lload hx hb dX2_lineBetween_108 (lv_at hl 0 rfl) ?_
            refine lv_iload_n hx hb dX2_lineBetween_110 rfl (lv_at hl 5 rfl) ?_
            refine rcSl (as := [.int p2]) (rest := [.long ((((mt T p1.toNatClampNeg) - (mt T p0.toNatClampNeg)) + (86400000000000 : Int64)) - (86400000000000 : Int64)), .long (((((fX2_dayNow T p1) - (fX2_dayNow T p0)) - (1 : Int64)) + (1 : Int64)) * ((86400000000000 : Int64) / (fX2_nanosOf p2)))]) C (c_X2_nanosOf l G p2) F_X2_nanosOf rfl bw1354 bw1355 hE vpn hl.1 dX2_lineBetween_111 ⟨Nat.le_of_ble_eq_true rfl, Nat.le_of_ble_eq_true rfl⟩ rfl (Nat.le_of_ble_eq_true rfl) ⟨Nat.zero_le _, Nat.zero_le _⟩ ?_
            refine lv_ldiv hx hb dX2_lineBetween_114 (nz_nanosOf p2) ?_
            refine lv_ladd hx hb dX2_lineBetween_115 ?_
            exact re_l hx hb hr hk dX2_lineBetween_116 (el (Eq.trans (if_neg c_1) (Eq.trans (if_neg c_7) (Eq.trans (if_neg c_13) (Eq.trans (if_neg c_15) (if_neg c_17))))))
          · refine lv_lload hx hb dX2_lineBetween_90 (lv_at hl 1 rfl) ?_
            refine lv_ldc2 (v := (7 : Int64)) hx hb hown (hw _ bw1274) dX2_lineBetween_92 ?_
            refine lv_ldiv hx hb dX2_lineBetween_95 (by decide) ?_
            exact re_l hx hb hr hk dX2_lineBetween_96 (el (Eq.trans (if_neg c_1) (Eq.trans (if_neg c_7) (Eq.trans (if_neg c_13) (Eq.trans (if_neg c_15) (if_pos c_17))))))

