set_option maxRecDepth 100000 in
set_option maxHeartbeats 4000000 in
theorem c_X0_gapInUnits (l : Launch) (G : GT) (a : Nat → Nat) (S : SX) (p0 : Int32) (p1 : Int32) (p2 : Int32) (h0 : vp_in p0 6) (h1 : vp_in p1 6) : RO l G yX0_gapInUnits cX0_gapInUnits 10 (some .long) 2 [.ref (a 0), .int p0, .int p1, .int p2] (wX G a S) (some (.long (fX0_gapInUnits S p0 p1 p2))) := by
  refine RO.ofW (own := RX0) rfl (by decide +kernel) (Nat.le_of_ble_eq_true rfl) ?_
  intro p e s m below meth c C hr hk hE hP ls hl
  have hx := C.1
  have hb := C.2.1
  have hown := C.2.2.2.1
  have hw := C.2.2.2.2
  have hl : lv_has ls 10 [(0, .ref (a 0)), (1, .int p0), (2, .int p1), (3, .int p2)] := hl
  refine lv_aload_n hx hb dX0_gapInUnits_0 rfl (lv_at hl 0 rfl) ?_
  refine va_get (D := gD G) (cl := vwCl) (tys := gT G) (ci := 2) (v := .ref (a 4)) (C := RX0) (T := TX0) (N := 12) hx hb hw inB_X0 hown hE.K hP 0 rfl rfl 3 (by decide) (hw _ bw97) (fun _ h9 => h9) rfl dX0_gapInUnits_1 ?_
  refine lv_iload_n hx hb dX0_gapInUnits_4 rfl (lv_at hl 2 rfl) ?_
  refine va_lald (tys := gT G) hx hb hE.K hP 4 1 rfl rfl h1 dX0_gapInUnits_5 ?_
  refine lv_aload_n hx hb dX0_gapInUnits_6 rfl (lv_at hl 0 rfl) ?_
  refine va_get (D := gD G) (cl := vwCl) (tys := gT G) (ci := 2) (v := .ref (a 4)) (C := RX0) (T := TX0) (N := 12) hx hb hw inB_X0 hown hE.K hP 0 rfl rfl 3 (by decide) (hw _ bw97) (fun _ h9 => h9) rfl dX0_gapInUnits_7 ?_
  refine lv_iload_n hx hb dX0_gapInUnits_10 rfl (lv_at hl 1 rfl) ?_
  refine va_lald (tys := gT G) hx hb hE.K hP 4 1 rfl rfl h0 dX0_gapInUnits_11 ?_
  refine lv_lsub hx hb dX0_gapInUnits_12 ?_
  refine lv_lstore (lv' := [(4, .long ((xD S p1.toNatClampNeg) - (xD S p0.toNatClampNeg))), (0, .ref (a 0)), (1, .int p0), (2, .int p1), (3, .int p2)]) hx hb dX0_gapInUnits_13 hl (Nat.le_of_ble_eq_true rfl) rfl (fun ls hl => ?_)
  refine lv_aload_n hx hb dX0_gapInUnits_15 rfl (lv_at hl 1 rfl) ?_
  refine va_get (D := gD G) (cl := vwCl) (tys := gT G) (ci := 2) (v := .ref (a 5)) (C := RX0) (T := TX0) (N := 12) hx hb hw inB_X0 hown hE.K hP 0 rfl rfl 4 (by decide) (hw _ bw98) (fun _ h9 => h9) rfl dX0_gapInUnits_16 ?_
  refine lv_iload_n hx hb dX0_gapInUnits_19 rfl (lv_at hl 3 rfl) ?_
  refine va_lald (tys := gT G) hx hb hE.K hP 5 1 rfl rfl h1 dX0_gapInUnits_20 ?_
  refine lv_aload_n hx hb dX0_gapInUnits_21 rfl (lv_at hl 1 rfl) ?_
  refine va_get (D := gD G) (cl := vwCl) (tys := gT G) (ci := 2) (v := .ref (a 5)) (C := RX0) (T := TX0) (N := 12) hx hb hw inB_X0 hown hE.K hP 0 rfl rfl 4 (by decide) (hw _ bw98) (fun _ h9 => h9) rfl dX0_gapInUnits_22 ?_
  refine lv_iload_n hx hb dX0_gapInUnits_25 rfl (lv_at hl 2 rfl) ?_
  refine va_lald (tys := gT G) hx hb hE.K hP 5 1 rfl rfl h0 dX0_gapInUnits_26 ?_
  refine lv_lsub hx hb dX0_gapInUnits_27 ?_
  refine lv_lstore (lv' := [(6, .long ((xN S p1.toNatClampNeg) - (xN S p0.toNatClampNeg))), (4, .long ((xD S p1.toNatClampNeg) - (xD S p0.toNatClampNeg))), (0, .ref (a 0)), (1, .int p0), (2, .int p1), (3, .int p2)]) hx hb dX0_gapInUnits_28 hl (Nat.le_of_ble_eq_true rfl) rfl (fun ls hl => ?_)
  refine lv_lload hx hb dX0_gapInUnits_30 (lv_at hl 1 rfl) ?_
  refine lv_lconst (v := (0 : Int64)) hx hb dX0_gapInUnits_32 (by decide) ?_
  refine W.lcmp hx hb dX0_gapInUnits_33 ?_
  refine lv_if_le (tgt := 61) hx hb dX0_gapInUnits_34 (by decide) (fun c_1 => ?_) (fun c_1 => ?_)
  · refine lv_lload hx hb dX0_gapInUnits_61 (lv_at hl 1 rfl) ?_
    refine lv_lconst (v := (0 : Int64)) hx hb dX0_gapInUnits_63 (by decide) ?_
    refine W.lcmp hx hb dX0_gapInUnits_64 ?_
    refine lv_if_ge (tgt := 89) hx hb dX0_gapInUnits_65 (by decide) (fun c_2 => ?_) (fun c_2 => ?_)
    · refine lv_iload_n hx hb dX0_gapInUnits_89 rfl (lv_at hl 5 rfl) ?_
      refine lv_bipush (v := (8 : Int32)) hx hb dX0_gapInUnits_90 (by decide) ?_
      refine lv_icmp_ne (tgt := 102) hx hb dX0_gapInUnits_92 (by decide) (fun c_3 => ?_) (fun c_3 => ?_)
      · refine lv_iload_n hx hb dX0_gapInUnits_102 rfl (lv_at hl 5 rfl) ?_
        refine rcSl (as := [.int p2]) (rest := []) C (c_X0_nanosOfUnit l G p2) F_X0_nanosOfUnit rfl bw223 bw224 hE vpn hl.1 dX0_gapInUnits_103 ⟨Nat.le_of_ble_eq_true rfl, Nat.le_of_ble_eq_true rfl⟩ rfl (Nat.le_of_ble_eq_true rfl) ⟨Nat.zero_le _, Nat.zero_le _⟩ ?_
        refine lv_lstore (lv' := [(8, .long (fX0_nanosOfUnit p2)), (6, .long ((xN S p1.toNatClampNeg) - (xN S p0.toNatClampNeg))), (4, .long ((xD S p1.toNatClampNeg) - (xD S p0.toNatClampNeg))), (0, .ref (a 0)), (1, .int p0), (2, .int p1), (3, .int p2)]) hx hb dX0_gapInUnits_106 hl (Nat.le_of_ble_eq_true rfl) rfl (fun ls hl => ?_)
        refine lv_lload hx hb dX0_gapInUnits_108 (lv_at hl 2 rfl) ?_
        refine lv_ldc2 (v := (86400000000000 : Int64)) hx hb hown (hw _ bw190) dX0_gapInUnits_110 ?_
        refine lv_lload hx hb dX0_gapInUnits_113 (lv_at hl 0 rfl) ?_
        refine rcSl (as := [.long (86400000000000 : Int64), .long (fX0_nanosOfUnit p2)]) (rest := [.long ((xD S p1.toNatClampNeg) - (xD S p0.toNatClampNeg))]) C (c_X0_quotient l G (86400000000000 : Int64) (fX0_nanosOfUnit p2)) F_X0_quotient rfl bw229 bw230 hE vpn hl.1 dX0_gapInUnits_115 ⟨Nat.le_of_ble_eq_true rfl, Nat.le_of_ble_eq_true rfl⟩ rfl (Nat.le_of_ble_eq_true rfl) ⟨Nat.zero_le _, Nat.zero_le _⟩ ?_
        refine lv_lmul hx hb dX0_gapInUnits_118 ?_
        refine lv_lload hx hb dX0_gapInUnits_119 (lv_at hl 1 rfl) ?_
        refine lv_lload hx hb dX0_gapInUnits_121 (lv_at hl 0 rfl) ?_
        refine rcSl (as := [.long ((xN S p1.toNatClampNeg) - (xN S p0.toNatClampNeg)), .long (fX0_nanosOfUnit p2)]) (rest := [.long (((xD S p1.toNatClampNeg) - (xD S p0.toNatClampNeg)) * (fX0_quotient (86400000000000 : Int64) (fX0_nanosOfUnit p2)))]) C (c_X0_quotient l G ((xN S p1.toNatClampNeg) - (xN S p0.toNatClampNeg)) (fX0_nanosOfUnit p2)) F_X0_quotient rfl bw229 bw230 hE vpn hl.1 dX0_gapInUnits_123 ⟨Nat.le_of_ble_eq_true rfl, Nat.le_of_ble_eq_true rfl⟩ rfl (Nat.le_of_ble_eq_true rfl) ⟨Nat.zero_le _, Nat.zero_le _⟩ ?_
        refine lv_ladd hx hb dX0_gapInUnits_126 ?_
        exact re_l hx hb hr hk dX0_gapInUnits_127 (el (Eq.trans (if_pos c_1) (Eq.trans (if_pos c_2) (if_neg c_3))))
      · refine lv_lload hx hb dX0_gapInUnits_95 (lv_at hl 1 rfl) ?_
        refine lv_ldc2 (v := (7 : Int64)) hx hb hown (hw _ bw248) dX0_gapInUnits_97 ?_
        refine lv_ldiv hx hb dX0_gapInUnits_100 (by decide) ?_
        exact re_l hx hb hr hk dX0_gapInUnits_101 (el (Eq.trans (if_pos c_1) (Eq.trans (if_pos c_2) (if_pos c_3))))
    · refine lv_lload hx hb dX0_gapInUnits_68 (lv_at hl 0 rfl) ?_
      refine lv_lconst (v := (0 : Int64)) hx hb dX0_gapInUnits_70 (by decide) ?_
      refine W.lcmp hx hb dX0_gapInUnits_71 ?_
      refine lv_if_le (tgt := 89) hx hb dX0_gapInUnits_72 (by decide) (fun c_4 => ?_) (fun c_4 => ?_)
      · refine lv_iload_n hx hb dX0_gapInUnits_89 rfl (lv_at hl 5 rfl) ?_
        refine lv_bipush (v := (8 : Int32)) hx hb dX0_gapInUnits_90 (by decide) ?_
        refine lv_icmp_ne (tgt := 102) hx hb dX0_gapInUnits_92 (by decide) (fun c_5 => ?_) (fun c_5 => ?_)
        · refine lv_iload_n hx hb dX0_gapInUnits_102 rfl (lv_at hl 5 rfl) ?_
          refine rcSl (as := [.int p2]) (rest := []) C (c_X0_nanosOfUnit l G p2) F_X0_nanosOfUnit rfl bw223 bw224 hE vpn hl.1 dX0_gapInUnits_103 ⟨Nat.le_of_ble_eq_true rfl, Nat.le_of_ble_eq_true rfl⟩ rfl (Nat.le_of_ble_eq_true rfl) ⟨Nat.zero_le _, Nat.zero_le _⟩ ?_
          refine lv_lstore (lv' := [(8, .long (fX0_nanosOfUnit p2)), (6, .long ((xN S p1.toNatClampNeg) - (xN S p0.toNatClampNeg))), (4, .long ((xD S p1.toNatClampNeg) - (xD S p0.toNatClampNeg))), (0, .ref (a 0)), (1, .int p0), (2, .int p1), (3, .int p2)]) hx hb dX0_gapInUnits_106 hl (Nat.le_of_ble_eq_true rfl) rfl (fun ls hl => ?_)
          refine lv_lload hx hb dX0_gapInUnits_108 (lv_at hl 2 rfl) ?_
          refine lv_ldc2 (v := (86400000000000 : Int64)) hx hb hown (hw _ bw190) dX0_gapInUnits_110 ?_
          refine lv_lload hx hb dX0_gapInUnits_113 (lv_at hl 0 rfl) ?_
          refine rcSl (as := [.long (86400000000000 : Int64), .long (fX0_nanosOfUnit p2)]) (rest := [.long ((xD S p1.toNatClampNeg) - (xD S p0.toNatClampNeg))]) C (c_X0_quotient l G (86400000000000 : Int64) (fX0_nanosOfUnit p2)) F_X0_quotient rfl bw229 bw230 hE vpn hl.1 dX0_gapInUnits_115 ⟨Nat.le_of_ble_eq_true rfl, Nat.le_of_ble_eq_true rfl⟩ rfl (Nat.le_of_ble_eq_true rfl) ⟨Nat.zero_le _, Nat.zero_le _⟩ ?_
          refine lv_lmul hx hb dX0_gapInUnits_118 ?_
          refine lv_lload hx hb dX0_gapInUnits_119 (lv_at hl 1 rfl) ?_
          refine lv_lload hx hb dX0_gapInUnits_121 (lv_at hl 0 rfl) ?_
          refine rcSl (as := [.long ((xN S p1.toNatClampNeg) - (xN S p0.toNatClampNeg)), .long (fX0_nanosOfUnit p2)]) (rest := [.long (((xD S p1.toNatClampNeg) - (xD S p0.toNatClampNeg)) * (fX0_quotient (86400000000000 : Int64) (fX0_nanosOfUnit p2)))]) C (c_X0_quotient l G ((xN S p1.toNatClampNeg) - (xN S p0.toNatClampNeg)) (fX0_nanosOfUnit p2)) F_X0_quotient rfl bw229 bw230 hE vpn hl.1 dX0_gapInUnits_123 ⟨Nat.le_of_ble_eq_true rfl, Nat.le_of_ble_eq_true rfl⟩ rfl (Nat.le_of_ble_eq_true rfl) ⟨Nat.zero_le _, Nat.zero_le _⟩ ?_
          refine lv_ladd hx hb dX0_gapInUnits_126 ?_
          exact re_l hx hb hr hk dX0_gapInUnits_127 (el (Eq.trans (if_pos c_1) (Eq.trans (if_neg c_2) (Eq.trans (if_pos c_4) (if_neg c_5)))))
        · refine lv_lload hx hb dX0_gapInUnits_95 (lv_at hl 1 rfl) ?_
          refine lv_ldc2 (v := (7 : Int64)) hx hb hown (hw _ bw248) dX0_gapInUnits_97 ?_
          refine lv_ldiv hx hb dX0_gapInUnits_100 (by decide) ?_
          exact re_l hx hb hr hk dX0_gapInUnits_101 (el (Eq.trans (if_pos c_1) (Eq.trans (if_neg c_2) (Eq.trans (if_pos c_4) (if_pos c_5)))))
      · refine lv_lload hx hb dX0_gapInUnits_75 (lv_at hl 1 rfl) ?_
        refine lv_lconst (v := (1 : Int64)) hx hb dX0_gapInUnits_77 (by decide) ?_
        refine lv_ladd hx hb dX0_gapInUnits_78 ?_
        refine lv_lstore (lv' := [(4, .long (((xD S p1.toNatClampNeg) - (xD S p0.toNatClampNeg)) + (1 : Int64))), (6, .long ((xN S p1.toNatClampNeg) - (xN S p0.toNatClampNeg))), (0, .ref (a 0)), (1, .int p0), (2, .int p1), (3, .int p2)]) hx hb dX0_gapInUnits_79 hl (Nat.le_of_ble_eq_true rfl) rfl (fun ls hl => ?_)
        refine lv_lload hx hb dX0_gapInUnits_81 (lv_at hl 1 rfl) ?_
        refine lv_ldc2 (v := (86400000000000 : Int64)) hx hb hown (hw _ bw190) dX0_gapInUnits_83 ?_
        refine lv_lsub hx hb dX0_gapInUnits_86 ?_
        refine lv_lstore (lv' := [(6, .long (((xN S p1.toNatClampNeg) - (xN S p0.toNatClampNeg)) - (86400000000000 : Int64))), (4, .long (((xD S p1.toNatClampNeg) - (xD S p0.toNatClampNeg)) + (1 : Int64))), (0, .ref (a 0)), (1, .int p0), (2, .int p1), (3, .int p2)]) hx hb dX0_gapInUnits_87 hl (Nat.le_of_ble_eq_true rfl) rfl (fun ls hl => ?_)
        refine lv_iload_n hx hb dX0_gapInUnits_89 rfl (lv_at hl 5 rfl) ?_
        refine lv_bipush (v := (8 : Int32)) hx hb dX0_gapInUnits_90 (by decide) ?_
        refine lv_icmp_ne (tgt := 102) hx hb dX0_gapInUnits_92 (by decide) (fun c_6 => ?_) (fun c_6 => ?_)
        · refine lv_iload_n hx hb dX0_gapInUnits_102 rfl (lv_at hl 5 rfl) ?_
          refine rcSl (as := [.int p2]) (rest := []) C (c_X0_nanosOfUnit l G p2) F_X0_nanosOfUnit rfl bw223 bw224 hE vpn hl.1 dX0_gapInUnits_103 ⟨Nat.le_of_ble_eq_true rfl, Nat.le_of_ble_eq_true rfl⟩ rfl (Nat.le_of_ble_eq_true rfl) ⟨Nat.zero_le _, Nat.zero_le _⟩ ?_
          refine lv_lstore (lv' := [(8, .long (fX0_nanosOfUnit p2)), (6, .long (((xN S p1.toNatClampNeg) - (xN S p0.toNatClampNeg)) - (86400000000000 : Int64))), (4, .long (((xD S p1.toNatClampNeg) - (xD S p0.toNatClampNeg)) + (1 : Int64))), (0, .ref (a 0)), (1, .int p0), (2, .int p1), (3, .int p2)]) hx hb dX0_gapInUnits_106 hl (Nat.le_of_ble_eq_true rfl) rfl (fun ls hl => ?_)
          refine lv_lload hx hb dX0_gapInUnits_108 (lv_at hl 2 rfl) ?_
          refine lv_ldc2 (v := (86400000000000 : Int64)) hx hb hown (hw _ bw190) dX0_gapInUnits_110 ?_
          refine lv_lload hx hb dX0_gapInUnits_113 (lv_at hl 0 rfl) ?_
          refine rcSl (as := [.long (86400000000000 : Int64), .long (fX0_nanosOfUnit p2)]) (rest := [.long (((xD S p1.toNatClampNeg) - (xD S p0.toNatClampNeg)) + (1 : Int64))]) C (c_X0_quotient l G (86400000000000 : Int64) (fX0_nanosOfUnit p2)) F_X0_quotient rfl bw229 bw230 hE vpn hl.1 dX0_gapInUnits_115 ⟨Nat.le_of_ble_eq_true rfl, Nat.le_of_ble_eq_true rfl⟩ rfl (Nat.le_of_ble_eq_true rfl) ⟨Nat.zero_le _, Nat.zero_le _⟩ ?_
          refine lv_lmul hx hb dX0_gapInUnits_118 ?_
          refine lv_lload hx hb dX0_gapInUnits_119 (lv_at hl 1 rfl) ?_
          refine lv_lload hx hb dX0_gapInUnits_121 (lv_at hl 0 rfl) ?_
          refine rcSl (as := [.long (((xN S p1.toNatClampNeg) - (xN S p0.toNatClampNeg)) - (86400000000000 : Int64)), .long (fX0_nanosOfUnit p2)]) (rest := [.long ((((xD S p1.toNatClampNeg) - (xD S p0.toNatClampNeg)) + (1 : Int64)) * (fX0_quotient (86400000000000 : Int64) (fX0_nanosOfUnit p2)))]) C (c_X0_quotient l G (((xN S p1.toNatClampNeg) - (xN S p0.toNatClampNeg)) - (86400000000000 : Int64)) (fX0_nanosOfUnit p2)) F_X0_quotient rfl bw229 bw230 hE vpn hl.1 dX0_gapInUnits_123 ⟨Nat.le_of_ble_eq_true rfl, Nat.le_of_ble_eq_true rfl⟩ rfl (Nat.le_of_ble_eq_true rfl) ⟨Nat.zero_le _, Nat.zero_le _⟩ ?_
          refine lv_ladd hx hb dX0_gapInUnits_126 ?_
          exact re_l hx hb hr hk dX0_gapInUnits_127 (el (Eq.trans (if_pos c_1) (Eq.trans (if_neg c_2) (Eq.trans (if_neg c_4) (if_neg c_6)))))
        · refine lv_lload hx hb dX0_gapInUnits_95 (lv_at hl 1 rfl) ?_
          refine lv_ldc2 (v := (7 : Int64)) hx hb hown (hw _ bw248) dX0_gapInUnits_97 ?_
          refine lv_ldiv hx hb dX0_gapInUnits_100 (by decide) ?_
          exact re_l hx hb hr hk dX0_gapInUnits_101 (el (Eq.trans (if_pos c_1) (Eq.trans (if_neg c_2) (Eq.trans (if_neg c_4) (if_pos c_6)))))
  · refine lv_lload hx hb dX0_gapInUnits_37 (lv_at hl 0 rfl) ?_
    refine lv_lconst (v := (0 : Int64)) hx hb dX0_gapInUnits_39 (by decide) ?_
    refine W.lcmp hx hb dX0_gapInUnits_40 ?_
    refine lv_if_ge (tgt := 61) hx hb dX0_gapInUnits_41 (by decide) (fun c_7 => ?_) (fun c_7 => ?_)
    · refine lv_lload hx hb dX0_gapInUnits_61 (lv_at hl 1 rfl) ?_
      refine lv_lconst (v := (0 : Int64)) hx hb dX0_gapInUnits_63 (by decide) ?_
      refine W.lcmp hx hb dX0_gapInUnits_64 ?_
      refine lv_if_ge (tgt := 89) hx hb dX0_gapInUnits_65 (by decide) (fun c_8 => ?_) (fun c_8 => ?_)
      · refine lv_iload_n hx hb dX0_gapInUnits_89 rfl (lv_at hl 5 rfl) ?_
        refine lv_bipush (v := (8 : Int32)) hx hb dX0_gapInUnits_90 (by decide) ?_
        refine lv_icmp_ne (tgt := 102) hx hb dX0_gapInUnits_92 (by decide) (fun c_9 => ?_) (fun c_9 => ?_)
        · refine lv_iload_n hx hb dX0_gapInUnits_102 rfl (lv_at hl 5 rfl) ?_
          refine rcSl (as := [.int p2]) (rest := []) C (c_X0_nanosOfUnit l G p2) F_X0_nanosOfUnit rfl bw223 bw224 hE vpn hl.1 dX0_gapInUnits_103 ⟨Nat.le_of_ble_eq_true rfl, Nat.le_of_ble_eq_true rfl⟩ rfl (Nat.le_of_ble_eq_true rfl) ⟨Nat.zero_le _, Nat.zero_le _⟩ ?_
          refine lv_lstore (lv' := [(8, .long (fX0_nanosOfUnit p2)), (6, .long ((xN S p1.toNatClampNeg) - (xN S p0.toNatClampNeg))), (4, .long ((xD S p1.toNatClampNeg) - (xD S p0.toNatClampNeg))), (0, .ref (a 0)), (1, .int p0), (2, .int p1), (3, .int p2)]) hx hb dX0_gapInUnits_106 hl (Nat.le_of_ble_eq_true rfl) rfl (fun ls hl => ?_)
          refine lv_lload hx hb dX0_gapInUnits_108 (lv_at hl 2 rfl) ?_
          refine lv_ldc2 (v := (86400000000000 : Int64)) hx hb hown (hw _ bw190) dX0_gapInUnits_110 ?_
          refine lv_lload hx hb dX0_gapInUnits_113 (lv_at hl 0 rfl) ?_
          refine rcSl (as := [.long (86400000000000 : Int64), .long (fX0_nanosOfUnit p2)]) (rest := [.long ((xD S p1.toNatClampNeg) - (xD S p0.toNatClampNeg))]) C (c_X0_quotient l G (86400000000000 : Int64) (fX0_nanosOfUnit p2)) F_X0_quotient rfl bw229 bw230 hE vpn hl.1 dX0_gapInUnits_115 ⟨Nat.le_of_ble_eq_true rfl, Nat.le_of_ble_eq_true rfl⟩ rfl (Nat.le_of_ble_eq_true rfl) ⟨Nat.zero_le _, Nat.zero_le _⟩ ?_
          refine lv_lmul hx hb dX0_gapInUnits_118 ?_
          refine lv_lload hx hb dX0_gapInUnits_119 (lv_at hl 1 rfl) ?_
          refine lv_lload hx hb dX0_gapInUnits_121 (lv_at hl 0 rfl) ?_
          refine rcSl (as := [.long ((xN S p1.toNatClampNeg) - (xN S p0.toNatClampNeg)), .long (fX0_nanosOfUnit p2)]) (rest := [.long (((xD S p1.toNatClampNeg) - (xD S p0.toNatClampNeg)) * (fX0_quotient (86400000000000 : Int64) (fX0_nanosOfUnit p2)))]) C (c_X0_quotient l G ((xN S p1.toNatClampNeg) - (xN S p0.toNatClampNeg)) (fX0_nanosOfUnit p2)) F_X0_quotient rfl bw229 bw230 hE vpn hl.1 dX0_gapInUnits_123 ⟨Nat.le_of_ble_eq_true rfl, Nat.le_of_ble_eq_true rfl⟩ rfl (Nat.le_of_ble_eq_true rfl) ⟨Nat.zero_le _, Nat.zero_le _⟩ ?_
          refine lv_ladd hx hb dX0_gapInUnits_126 ?_
          exact re_l hx hb hr hk dX0_gapInUnits_127 (el (Eq.trans (if_neg c_1) (Eq.trans (if_pos c_7) (Eq.trans (if_pos c_8) (if_neg c_9)))))
        · refine lv_lload hx hb dX0_gapInUnits_95 (lv_at hl 1 rfl) ?_
          refine lv_ldc2 (v := (7 : Int64)) hx hb hown (hw _ bw248) dX0_gapInUnits_97 ?_
          refine lv_ldiv hx hb dX0_gapInUnits_100 (by decide) ?_
          exact re_l hx hb hr hk dX0_gapInUnits_101 (el (Eq.trans (if_neg c_1) (Eq.trans (if_pos c_7) (Eq.trans (if_pos c_8) (if_pos c_9)))))
      · refine lv_lload hx hb dX0_gapInUnits_68 (lv_at hl 0 rfl) ?_
        refine lv_lconst (v := (0 : Int64)) hx hb dX0_gapInUnits_70 (by decide) ?_
        refine W.lcmp hx hb dX0_gapInUnits_71 ?_
        refine lv_if_le (tgt := 89) hx hb dX0_gapInUnits_72 (by decide) (fun c_10 => ?_) (fun c_10 => ?_)
        · refine lv_iload_n hx hb dX0_gapInUnits_89 rfl (lv_at hl 5 rfl) ?_
          refine lv_bipush (v := (8 : Int32)) hx hb dX0_gapInUnits_90 (by decide) ?_
          refine lv_icmp_ne (tgt := 102) hx hb dX0_gapInUnits_92 (by decide) (fun c_11 => ?_) (fun c_11 => ?_)
          · refine lv_iload_n hx hb dX0_gapInUnits_102 rfl (lv_at hl 5 rfl) ?_
            refine rcSl (as := [.int p2]) (rest := []) C (c_X0_nanosOfUnit l G p2) F_X0_nanosOfUnit rfl bw223 bw224 hE vpn hl.1 dX0_gapInUnits_103 ⟨Nat.le_of_ble_eq_true rfl, Nat.le_of_ble_eq_true rfl⟩ rfl (Nat.le_of_ble_eq_true rfl) ⟨Nat.zero_le _, Nat.zero_le _⟩ ?_
            refine lv_lstore (lv' := [(8, .long (fX0_nanosOfUnit p2)), (6, .long ((xN S p1.toNatClampNeg) - (xN S p0.toNatClampNeg))), (4, .long ((xD S p1.toNatClampNeg) - (xD S p0.toNatClampNeg))), (0, .ref (a 0)), (1, .int p0), (2, .int p1), (3, .int p2)]) hx hb dX0_gapInUnits_106 hl (Nat.le_of_ble_eq_true rfl) rfl (fun ls hl => ?_)
            refine lv_lload hx hb dX0_gapInUnits_108 (lv_at hl 2 rfl) ?_
            refine lv_ldc2 (v := (86400000000000 : Int64)) hx hb hown (hw _ bw190) dX0_gapInUnits_110 ?_
            refine lv_lload hx hb dX0_gapInUnits_113 (lv_at hl 0 rfl) ?_
            refine rcSl (as := [.long (86400000000000 : Int64), .long (fX0_nanosOfUnit p2)]) (rest := [.long ((xD S p1.toNatClampNeg) - (xD S p0.toNatClampNeg))]) C (c_X0_quotient l G (86400000000000 : Int64) (fX0_nanosOfUnit p2)) F_X0_quotient rfl bw229 bw230 hE vpn hl.1 dX0_gapInUnits_115 ⟨Nat.le_of_ble_eq_true rfl, Nat.le_of_ble_eq_true rfl⟩ rfl (Nat.le_of_ble_eq_true rfl) ⟨Nat.zero_le _, Nat.zero_le _⟩ ?_
            refine lv_lmul hx hb dX0_gapInUnits_118 ?_
            refine lv_lload hx hb dX0_gapInUnits_119 (lv_at hl 1 rfl) ?_
            refine lv_lload hx hb dX0_gapInUnits_121 (lv_at hl 0 rfl) ?_
            refine rcSl (as := [.long ((xN S p1.toNatClampNeg) - (xN S p0.toNatClampNeg)), .long (fX0_nanosOfUnit p2)]) (rest := [.long (((xD S p1.toNatClampNeg) - (xD S p0.toNatClampNeg)) * (fX0_quotient (86400000000000 : Int64) (fX0_nanosOfUnit p2)))]) C (c_X0_quotient l G ((xN S p1.toNatClampNeg) - (xN S p0.toNatClampNeg)) (fX0_nanosOfUnit p2)) F_X0_quotient rfl bw229 bw230 hE vpn hl.1 dX0_gapInUnits_123 ⟨Nat.le_of_ble_eq_true rfl, Nat.le_of_ble_eq_true rfl⟩ rfl (Nat.le_of_ble_eq_true rfl) ⟨Nat.zero_le _, Nat.zero_le _⟩ ?_
            refine lv_ladd hx hb dX0_gapInUnits_126 ?_
            exact re_l hx hb hr hk dX0_gapInUnits_127 (el (Eq.trans (if_neg c_1) (Eq.trans (if_pos c_7) (Eq.trans (if_neg c_8) (Eq.trans (if_pos c_10) (if_neg c_11))))))
          · refine lv_lload hx hb dX0_gapInUnits_95 (lv_at hl 1 rfl) ?_
            refine lv_ldc2 (v := (7 : Int64)) hx hb hown (hw _ bw248) dX0_gapInUnits_97 ?_
            refine lv_ldiv hx hb dX0_gapInUnits_100 (by decide) ?_
            exact re_l hx hb hr hk dX0_gapInUnits_101 (el (Eq.trans (if_neg c_1) (Eq.trans (if_pos c_7) (Eq.trans (if_neg c_8) (Eq.trans (if_pos c_10) (if_pos c_11))))))
        · refine lv_lload hx hb dX0_gapInUnits_75 (lv_at hl 1 rfl) ?_
          refine lv_lconst (v := (1 : Int64)) hx hb dX0_gapInUnits_77 (by decide) ?_
          refine lv_ladd hx hb dX0_gapInUnits_78 ?_
          refine lv_lstore (lv' := [(4, .long (((xD S p1.toNatClampNeg) - (xD S p0.toNatClampNeg)) + (1 : Int64))), (6, .long ((xN S p1.toNatClampNeg) - (xN S p0.toNatClampNeg))), (0, .ref (a 0)), (1, .int p0), (2, .int p1), (3, .int p2)]) hx hb dX0_gapInUnits_79 hl (Nat.le_of_ble_eq_true rfl) rfl (fun ls hl => ?_)
          refine lv_lload hx hb dX0_gapInUnits_81 (lv_at hl 1 rfl) ?_
          refine lv_ldc2 (v := (86400000000000 : Int64)) hx hb hown (hw _ bw190) dX0_gapInUnits_83 ?_
          refine lv_lsub hx hb dX0_gapInUnits_86 ?_
          refine lv_lstore (lv' := [(6, .long (((xN S p1.toNatClampNeg) - (xN S p0.toNatClampNeg)) - (86400000000000 : Int64))), (4, .long (((xD S p1.toNatClampNeg) - (xD S p0.toNatClampNeg)) + (1 : Int64))), (0, .ref (a 0)), (1, .int p0), (2, .int p1), (3, .int p2)]) hx hb dX0_gapInUnits_87 hl (Nat.le_of_ble_eq_true rfl) rfl (fun ls hl => ?_)
          refine lv_iload_n hx hb dX0_gapInUnits_89 rfl (lv_at hl 5 rfl) ?_
          refine lv_bipush (v := (8 : Int32)) hx hb dX0_gapInUnits_90 (by decide) ?_
          refine lv_icmp_ne (tgt := 102) hx hb dX0_gapInUnits_92 (by decide) (fun c_12 => ?_) (fun c_12 => ?_)
          · refine lv_iload_n hx hb dX0_gapInUnits_102 rfl (lv_at hl 5 rfl) ?_
            refine rcSl (as := [.int p2]) (rest := []) C (c_X0_nanosOfUnit l G p2) F_X0_nanosOfUnit rfl bw223 bw224 hE vpn hl.1 dX0_gapInUnits_103 ⟨Nat.le_of_ble_eq_true rfl, Nat.le_of_ble_eq_true rfl⟩ rfl (Nat.le_of_ble_eq_true rfl) ⟨Nat.zero_le _, Nat.zero_le _⟩ ?_
            refine lv_lstore (lv' := [(8, .long (fX0_nanosOfUnit p2)), (6, .long (((xN S p1.toNatClampNeg) - (xN S p0.toNatClampNeg)) - (86400000000000 : Int64))), (4, .long (((xD S p1.toNatClampNeg) - (xD S p0.toNatClampNeg)) + (1 : Int64))), (0, .ref (a 0)), (1, .int p0), (2, .int p1), (3, .int p2)]) hx hb dX0_gapInUnits_106 hl (Nat.le_of_ble_eq_true rfl) rfl (fun ls hl => ?_)
            refine lv_lload hx hb dX0_gapInUnits_108 (lv_at hl 2 rfl) ?_
            refine lv_ldc2 (v := (86400000000000 : Int64)) hx hb hown (hw _ bw190) dX0_gapInUnits_110 ?_
            refine lv_lload hx hb dX0_gapInUnits_113 (lv_at hl 0 rfl) ?_
            refine rcSl (as := [.long (86400000000000 : Int64), .long (fX0_nanosOfUnit p2)]) (rest := [.long (((xD S p1.toNatClampNeg) - (xD S p0.toNatClampNeg)) + (1 : Int64))]) C (c_X0_quotient l G (86400000000000 : Int64) (fX0_nanosOfUnit p2)) F_X0_quotient rfl bw229 bw230 hE vpn hl.1 dX0_gapInUnits_115 ⟨Nat.le_of_ble_eq_true rfl, Nat.le_of_ble_eq_true rfl⟩ rfl (Nat.le_of_ble_eq_true rfl) ⟨Nat.zero_le _, Nat.zero_le _⟩ ?_
            refine lv_lmul hx hb dX0_gapInUnits_118 ?_
            refine lv_lload hx hb dX0_gapInUnits_119 (lv_at hl 1 rfl) ?_
            refine lv_lload hx hb dX0_gapInUnits_121 (lv_at hl 0 rfl) ?_
            refine rcSl (as := [.long (((xN S p1.toNatClampNeg) - (xN S p0.toNatClampNeg)) - (86400000000000 : Int64)), .long (fX0_nanosOfUnit p2)]) (rest := [.long ((((xD S p1.toNatClampNeg) - (xD S p0.toNatClampNeg)) + (1 : Int64)) * (fX0_quotient (86400000000000 : Int64) (fX0_nanosOfUnit p2)))]) C (c_X0_quotient l G (((xN S p1.toNatClampNeg) - (xN S p0.toNatClampNeg)) - (86400000000000 : Int64)) (fX0_nanosOfUnit p2)) F_X0_quotient rfl bw229 bw230 hE vpn hl.1 dX0_gapInUnits_123 ⟨Nat.le_of_ble_eq_true rfl, Nat.le_of_ble_eq_true rfl⟩ rfl (Nat.le_of_ble_eq_true rfl) ⟨Nat.zero_le _, Nat.zero_le _⟩ ?_
            refine lv_ladd hx hb dX0_gapInUnits_126 ?_
            exact re_l hx hb hr hk dX0_gapInUnits_127 (el (Eq.trans (if_neg c_1) (Eq.trans (if_pos c_7) (Eq.trans (if_neg c_8) (Eq.trans (if_neg c_10) (if_neg c_12))))))
          · refine lv_lload hx hb dX0_gapInUnits_95 (lv_at hl 1 rfl) ?_
            refine lv_ldc2 (v := (7 : Int64)) hx hb hown (hw _ bw248) dX0_gapInUnits_97 ?_
            refine lv_ldiv hx hb dX0_gapInUnits_100 (by decide) ?_
            exact re_l hx hb hr hk dX0_gapInUnits_101 (el (Eq.trans (if_neg c_1) (Eq.trans (if_pos c_7) (Eq.trans (if_neg c_8) (Eq.trans (if_neg c_10) (if_pos c_12))))))
    · refine lv_lload hx hb dX0_gapInUnits_44 (lv_at hl 1 rfl) ?_
      refine lv_lconst (v := (1 : Int64)) hx hb dX0_gapInUnits_46 (by decide) ?_
      refine lv_lsub hx hb dX0_gapInUnits_47 ?_
      refine lv_lstore (lv' := [(4, .long (((xD S p1.toNatClampNeg) - (xD S p0.toNatClampNeg)) - (1 : Int64))), (6, .long ((xN S p1.toNatClampNeg) - (xN S p0.toNatClampNeg))), (0, .ref (a 0)), (1, .int p0), (2, .int p1), (3, .int p2)]) hx hb dX0_gapInUnits_48 hl (Nat.le_of_ble_eq_true rfl) rfl (fun ls hl => ?_)
      refine lv_lload hx hb dX0_gapInUnits_50 (lv_at hl 1 rfl) ?_
      refine lv_ldc2 (v := (86400000000000 : Int64)) hx hb hown (hw _ bw190) dX0_gapInUnits_52 ?_
      refine lv_ladd hx hb dX0_gapInUnits_55 ?_
      refine lv_lstore (lv' := [(6, .long (((xN S p1.toNatClampNeg) - (xN S p0.toNatClampNeg)) + (86400000000000 : Int64))), (4, .long (((xD S p1.toNatClampNeg) - (xD S p0.toNatClampNeg)) - (1 : Int64))), (0, .ref (a 0)), (1, .int p0), (2, .int p1), (3, .int p2)]) hx hb dX0_gapInUnits_56 hl (Nat.le_of_ble_eq_true rfl) rfl (fun ls hl => ?_)
      refine lv_goto (tgt := 89) hx hb dX0_gapInUnits_58 (by decide) ?_
      refine lv_iload_n hx hb dX0_gapInUnits_89 rfl (lv_at hl 5 rfl) ?_
      refine lv_bipush (v := (8 : Int32)) hx hb dX0_gapInUnits_90 (by decide) ?_
      refine lv_icmp_ne (tgt := 102) hx hb dX0_gapInUnits_92 (by decide) (fun c_13 => ?_) (fun c_13 => ?_)
      · refine lv_iload_n hx hb dX0_gapInUnits_102 rfl (lv_at hl 5 rfl) ?_
        refine rcSl (as := [.int p2]) (rest := []) C (c_X0_nanosOfUnit l G p2) F_X0_nanosOfUnit rfl bw223 bw224 hE vpn hl.1 dX0_gapInUnits_103 ⟨Nat.le_of_ble_eq_true rfl, Nat.le_of_ble_eq_true rfl⟩ rfl (Nat.le_of_ble_eq_true rfl) ⟨Nat.zero_le _, Nat.zero_le _⟩ ?_
        refine lv_lstore (lv' := [(8, .long (fX0_nanosOfUnit p2)), (6, .long (((xN S p1.toNatClampNeg) - (xN S p0.toNatClampNeg)) + (86400000000000 : Int64))), (4, .long (((xD S p1.toNatClampNeg) - (xD S p0.toNatClampNeg)) - (1 : Int64))), (0, .ref (a 0)), (1, .int p0), (2, .int p1), (3, .int p2)]) hx hb dX0_gapInUnits_106 hl (Nat.le_of_ble_eq_true rfl) rfl (fun ls hl => ?_)
        refine lv_lload hx hb dX0_gapInUnits_108 (lv_at hl 2 rfl) ?_
        refine lv_ldc2 (v := (86400000000000 : Int64)) hx hb hown (hw _ bw190) dX0_gapInUnits_110 ?_
        refine lv_lload hx hb dX0_gapInUnits_113 (lv_at hl 0 rfl) ?_
        refine rcSl (as := [.long (86400000000000 : Int64), .long (fX0_nanosOfUnit p2)]) (rest := [.long (((xD S p1.toNatClampNeg) - (xD S p0.toNatClampNeg)) - (1 : Int64))]) C (c_X0_quotient l G (86400000000000 : Int64) (fX0_nanosOfUnit p2)) F_X0_quotient rfl bw229 bw230 hE vpn hl.1 dX0_gapInUnits_115 ⟨Nat.le_of_ble_eq_true rfl, Nat.le_of_ble_eq_true rfl⟩ rfl (Nat.le_of_ble_eq_true rfl) ⟨Nat.zero_le _, Nat.zero_le _⟩ ?_
        refine lv_lmul hx hb dX0_gapInUnits_118 ?_
        refine lv_lload hx hb dX0_gapInUnits_119 (lv_at hl 1 rfl) ?_
        refine lv_lload hx hb dX0_gapInUnits_121 (lv_at hl 0 rfl) ?_
        refine rcSl (as := [.long (((xN S p1.toNatClampNeg) - (xN S p0.toNatClampNeg)) + (86400000000000 : Int64)), .long (fX0_nanosOfUnit p2)]) (rest := [.long ((((xD S p1.toNatClampNeg) - (xD S p0.toNatClampNeg)) - (1 : Int64)) * (fX0_quotient (86400000000000 : Int64) (fX0_nanosOfUnit p2)))]) C (c_X0_quotient l G (((xN S p1.toNatClampNeg) - (xN S p0.toNatClampNeg)) + (86400000000000 : Int64)) (fX0_nanosOfUnit p2)) F_X0_quotient rfl bw229 bw230 hE vpn hl.1 dX0_gapInUnits_123 ⟨Nat.le_of_ble_eq_true rfl, Nat.le_of_ble_eq_true rfl⟩ rfl (Nat.le_of_ble_eq_true rfl) ⟨Nat.zero_le _, Nat.zero_le _⟩ ?_
        refine lv_ladd hx hb dX0_gapInUnits_126 ?_
        exact re_l hx hb hr hk dX0_gapInUnits_127 (el (Eq.trans (if_neg c_1) (Eq.trans (if_neg c_7) (if_neg c_13))))
      · refine lv_lload hx hb dX0_gapInUnits_95 (lv_at hl 1 rfl) ?_
        refine lv_ldc2 (v := (7 : Int64)) hx hb hown (hw _ bw248) dX0_gapInUnits_97 ?_
        refine lv_ldiv hx hb dX0_gapInUnits_100 (by decide) ?_
        exact re_l hx hb hr hk dX0_gapInUnits_101 (el (Eq.trans (if_neg c_1) (Eq.trans (if_neg c_7) (if_pos c_13))))

