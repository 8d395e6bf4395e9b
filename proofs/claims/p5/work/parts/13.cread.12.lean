set_option maxRecDepth 100000 in
set_option maxHeartbeats 4000000 in
theorem c_X0_dateField (l : Launch) (G : GT) (a : Nat → Nat) (S : SX) (p0 : Int32) (p1 : Int32) (h0 : vp_in p0 6) : RO l G yX0_dateField cX0_dateField 4 (some .long) 4 [.ref (a 0), .int p0, .int p1] (wX G a S) (some (.long (fX0_dateField S p0 p1))) := by
  refine RO.ofW (own := RX0) rfl (by decide +kernel) (Nat.le_of_ble_eq_true rfl) ?_
  intro p e s m below meth c C hr hk hE hP ls hl
  have hx := C.1
  have hb := C.2.1
  have hown := C.2.2.2.1
  have hw := C.2.2.2.2
  have hl : lv_has ls 4 [(0, .ref (a 0)), (1, .int p0), (2, .int p1)] := hl
  refine lv_aload_n hx hb dX0_dateField_0 rfl (lv_at hl 0 rfl) ?_
  refine va_get (D := gD G) (cl := vwCl) (tys := gT G) (ci := 2) (v := .ref (a 1)) (C := RX0) (T := TX0) (N := 12) hx hb hw inB_X0 hown hE.K hP 0 rfl rfl 0 (by decide) (hw _ bw94) (fun _ h9 => h9) rfl dX0_dateField_1 ?_
  refine lv_iload_n hx hb dX0_dateField_4 rfl (lv_at hl 1 rfl) ?_
  refine va_iald (tys := gT G) hx hb hE.K hP 1 0 rfl rfl h0 dX0_dateField_5 ?_
  refine lv_istore_n (lv' := [(3, .int (xy S p0.toNatClampNeg)), (0, .ref (a 0)), (1, .int p0), (2, .int p1)]) hx hb dX0_dateField_6 rfl hl (Nat.le_of_ble_eq_true rfl) rfl (fun ls hl => ?_)
  refine lv_iload_n hx hb dX0_dateField_7 rfl (lv_at hl 3 rfl) ?_
  by_cases c_1 : p1 = (15 : Int32)
  · refine lv_tableIn (tgt := 72) (off := 64) hx hb dX0_dateField_8 (by rw [c_1]; decide) (by rw [c_1]; decide) (by rw [c_1]; decide) (by decide) ?_
    refine lv_aload_n hx hb dX0_dateField_72 rfl (lv_at hl 1 rfl) ?_
    refine va_get (D := gD G) (cl := vwCl) (tys := gT G) (ci := 2) (v := .ref (a 4)) (C := RX0) (T := TX0) (N := 12) hx hb hw inB_X0 hown hE.K hP 0 rfl rfl 3 (by decide) (hw _ bw97) (fun _ h9 => h9) rfl dX0_dateField_73 ?_
    refine lv_iload_n hx hb dX0_dateField_76 rfl (lv_at hl 2 rfl) ?_
    refine va_lald (tys := gT G) hx hb hE.K hP 4 1 rfl rfl h0 dX0_dateField_77 ?_
    refine rcSi (as := [.long (xD S p0.toNatClampNeg)]) (rest := []) C (c_X0_weekday l G (xD S p0.toNatClampNeg)) F_X0_weekday rfl bw262 bw263 hE vpn hl.1 dX0_dateField_78 ⟨Nat.le_of_ble_eq_true rfl, Nat.le_of_ble_eq_true rfl⟩ rfl (Nat.le_of_ble_eq_true rfl) ⟨Nat.zero_le _, Nat.zero_le _⟩ ?_
    refine lv_i2l (v := ((fX0_weekday (xD S p0.toNatClampNeg)).toInt64)) hx hb dX0_dateField_81 (by first | rfl | decide) ?_
    exact re_l hx hb hr hk dX0_dateField_82 (el (if_pos c_1))
  by_cases c_2 : p1 = (16 : Int32)
  · refine lv_tableIn (tgt := 83) (off := 75) hx hb dX0_dateField_8 (by rw [c_2]; decide) (by rw [c_2]; decide) (by rw [c_2]; decide) (by decide) ?_
    refine lv_aload_n hx hb dX0_dateField_83 rfl (lv_at hl 1 rfl) ?_
    refine va_get (D := gD G) (cl := vwCl) (tys := gT G) (ci := 2) (v := .ref (a 3)) (C := RX0) (T := TX0) (N := 12) hx hb hw inB_X0 hown hE.K hP 0 rfl rfl 2 (by decide) (hw _ bw96) (fun _ h9 => h9) rfl dX0_dateField_84 ?_
    refine lv_iload_n hx hb dX0_dateField_87 rfl (lv_at hl 2 rfl) ?_
    refine va_iald (tys := gT G) hx hb hE.K hP 3 0 rfl rfl h0 dX0_dateField_88 ?_
    refine lv_iconst (v := (1 : Int32)) hx hb dX0_dateField_89 (by decide) ?_
    refine lv_isub hx hb dX0_dateField_90 ?_
    refine lv_bipush (v := (7 : Int32)) hx hb dX0_dateField_91 (by decide) ?_
    refine lv_irem hx hb dX0_dateField_93 (by decide) ?_
    refine lv_iconst (v := (1 : Int32)) hx hb dX0_dateField_94 (by decide) ?_
    refine lv_iadd hx hb dX0_dateField_95 ?_
    refine lv_i2l (v := (((((xd S p0.toNatClampNeg) - (1 : Int32)) - ((xd S p0.toNatClampNeg) - (1 : Int32)) / (7 : Int32) * (7 : Int32)) + (1 : Int32)).toInt64)) hx hb dX0_dateField_96 (by first | rfl | decide) ?_
    exact re_l hx hb hr hk dX0_dateField_97 (el (Eq.trans (if_neg c_1) (if_pos c_2)))
  by_cases c_3 : p1 = (17 : Int32)
  · refine lv_tableIn (tgt := 98) (off := 90) hx hb dX0_dateField_8 (by rw [c_3]; decide) (by rw [c_3]; decide) (by rw [c_3]; decide) (by decide) ?_
    refine lv_aload_n hx hb dX0_dateField_98 rfl (lv_at hl 1 rfl) ?_
    refine lv_iload_n hx hb dX0_dateField_99 rfl (lv_at hl 2 rfl) ?_
    refine rcVi (as := [.int p0]) (rest := []) (cl := RX0) C (c_X0_yearDay l G a S p0 h0) F_X0_yearDay rfl bw182 bw184 bw3 hE hP (va_recv hE.K hP (ci := 2) (q0 := 0) rfl rfl) hl.1 dX0_dateField_100 ⟨Nat.le_of_ble_eq_true rfl, Nat.le_of_ble_eq_true rfl⟩ rfl (Nat.le_of_ble_eq_true rfl) ⟨Nat.zero_le _, Nat.zero_le _⟩ ?_
    refine lv_iconst (v := (1 : Int32)) hx hb dX0_dateField_103 (by decide) ?_
    refine lv_isub hx hb dX0_dateField_104 ?_
    refine lv_bipush (v := (7 : Int32)) hx hb dX0_dateField_105 (by decide) ?_
    refine lv_irem hx hb dX0_dateField_107 (by decide) ?_
    refine lv_iconst (v := (1 : Int32)) hx hb dX0_dateField_108 (by decide) ?_
    refine lv_iadd hx hb dX0_dateField_109 ?_
    refine lv_i2l (v := (((((fX0_yearDay S p0) - (1 : Int32)) - ((fX0_yearDay S p0) - (1 : Int32)) / (7 : Int32) * (7 : Int32)) + (1 : Int32)).toInt64)) hx hb dX0_dateField_110 (by first | rfl | decide) ?_
    exact re_l hx hb hr hk dX0_dateField_111 (el (Eq.trans (if_neg c_1) (Eq.trans (if_neg c_2) (if_pos c_3))))
  by_cases c_4 : p1 = (18 : Int32)
  · refine lv_tableIn (tgt := 112) (off := 104) hx hb dX0_dateField_8 (by rw [c_4]; decide) (by rw [c_4]; decide) (by rw [c_4]; decide) (by decide) ?_
    refine lv_aload_n hx hb dX0_dateField_112 rfl (lv_at hl 1 rfl) ?_
    refine va_get (D := gD G) (cl := vwCl) (tys := gT G) (ci := 2) (v := .ref (a 3)) (C := RX0) (T := TX0) (N := 12) hx hb hw inB_X0 hown hE.K hP 0 rfl rfl 2 (by decide) (hw _ bw96) (fun _ h9 => h9) rfl dX0_dateField_113 ?_
    refine lv_iload_n hx hb dX0_dateField_116 rfl (lv_at hl 2 rfl) ?_
    refine va_iald (tys := gT G) hx hb hE.K hP 3 0 rfl rfl h0 dX0_dateField_117 ?_
    refine lv_i2l (v := ((xd S p0.toNatClampNeg).toInt64)) hx hb dX0_dateField_118 (by first | rfl | decide) ?_
    exact re_l hx hb hr hk dX0_dateField_119 (el (Eq.trans (if_neg c_1) (Eq.trans (if_neg c_2) (Eq.trans (if_neg c_3) (if_pos c_4)))))
  by_cases c_5 : p1 = (19 : Int32)
  · refine lv_tableIn (tgt := 120) (off := 112) hx hb dX0_dateField_8 (by rw [c_5]; decide) (by rw [c_5]; decide) (by rw [c_5]; decide) (by decide) ?_
    refine lv_aload_n hx hb dX0_dateField_120 rfl (lv_at hl 1 rfl) ?_
    refine lv_iload_n hx hb dX0_dateField_121 rfl (lv_at hl 2 rfl) ?_
    refine rcVi (as := [.int p0]) (rest := []) (cl := RX0) C (c_X0_yearDay l G a S p0 h0) F_X0_yearDay rfl bw182 bw184 bw3 hE hP (va_recv hE.K hP (ci := 2) (q0 := 0) rfl rfl) hl.1 dX0_dateField_122 ⟨Nat.le_of_ble_eq_true rfl, Nat.le_of_ble_eq_true rfl⟩ rfl (Nat.le_of_ble_eq_true rfl) ⟨Nat.zero_le _, Nat.zero_le _⟩ ?_
    refine lv_i2l (v := ((fX0_yearDay S p0).toInt64)) hx hb dX0_dateField_125 (by first | rfl | decide) ?_
    exact re_l hx hb hr hk dX0_dateField_126 (el (Eq.trans (if_neg c_1) (Eq.trans (if_neg c_2) (Eq.trans (if_neg c_3) (Eq.trans (if_neg c_4) (if_pos c_5))))))
  by_cases c_6 : p1 = (20 : Int32)
  · refine lv_tableIn (tgt := 127) (off := 119) hx hb dX0_dateField_8 (by rw [c_6]; decide) (by rw [c_6]; decide) (by rw [c_6]; decide) (by decide) ?_
    refine lv_aload_n hx hb dX0_dateField_127 rfl (lv_at hl 1 rfl) ?_
    refine va_get (D := gD G) (cl := vwCl) (tys := gT G) (ci := 2) (v := .ref (a 4)) (C := RX0) (T := TX0) (N := 12) hx hb hw inB_X0 hown hE.K hP 0 rfl rfl 3 (by decide) (hw _ bw97) (fun _ h9 => h9) rfl dX0_dateField_128 ?_
    refine lv_iload_n hx hb dX0_dateField_131 rfl (lv_at hl 2 rfl) ?_
    refine va_lald (tys := gT G) hx hb hE.K hP 4 1 rfl rfl h0 dX0_dateField_132 ?_
    exact re_l hx hb hr hk dX0_dateField_133 (el (Eq.trans (if_neg c_1) (Eq.trans (if_neg c_2) (Eq.trans (if_neg c_3) (Eq.trans (if_neg c_4) (Eq.trans (if_neg c_5) (if_pos c_6)))))))
  by_cases c_7 : p1 = (21 : Int32)
  · refine lv_tableIn (tgt := 134) (off := 126) hx hb dX0_dateField_8 (by rw [c_7]; decide) (by rw [c_7]; decide) (by rw [c_7]; decide) (by decide) ?_
    refine lv_aload_n hx hb dX0_dateField_134 rfl (lv_at hl 1 rfl) ?_
    refine va_get (D := gD G) (cl := vwCl) (tys := gT G) (ci := 2) (v := .ref (a 3)) (C := RX0) (T := TX0) (N := 12) hx hb hw inB_X0 hown hE.K hP 0 rfl rfl 2 (by decide) (hw _ bw96) (fun _ h9 => h9) rfl dX0_dateField_135 ?_
    refine lv_iload_n hx hb dX0_dateField_138 rfl (lv_at hl 2 rfl) ?_
    refine va_iald (tys := gT G) hx hb hE.K hP 3 0 rfl rfl h0 dX0_dateField_139 ?_
    refine lv_iconst (v := (1 : Int32)) hx hb dX0_dateField_140 (by decide) ?_
    refine lv_isub hx hb dX0_dateField_141 ?_
    refine lv_bipush (v := (7 : Int32)) hx hb dX0_dateField_142 (by decide) ?_
    refine lv_idiv hx hb dX0_dateField_144 (by decide) ?_
    refine lv_iconst (v := (1 : Int32)) hx hb dX0_dateField_145 (by decide) ?_
    refine lv_iadd hx hb dX0_dateField_146 ?_
    refine lv_i2l (v := (((((xd S p0.toNatClampNeg) - (1 : Int32)) / (7 : Int32)) + (1 : Int32)).toInt64)) hx hb dX0_dateField_147 (by first | rfl | decide) ?_
    exact re_l hx hb hr hk dX0_dateField_148 (el (Eq.trans (if_neg c_1) (Eq.trans (if_neg c_2) (Eq.trans (if_neg c_3) (Eq.trans (if_neg c_4) (Eq.trans (if_neg c_5) (Eq.trans (if_neg c_6) (if_pos c_7))))))))
  by_cases c_8 : p1 = (22 : Int32)
  · refine lv_tableIn (tgt := 149) (off := 141) hx hb dX0_dateField_8 (by rw [c_8]; decide) (by rw [c_8]; decide) (by rw [c_8]; decide) (by decide) ?_
    refine lv_aload_n hx hb dX0_dateField_149 rfl (lv_at hl 1 rfl) ?_
    refine lv_iload_n hx hb dX0_dateField_150 rfl (lv_at hl 2 rfl) ?_
    refine rcVi (as := [.int p0]) (rest := []) (cl := RX0) C (c_X0_yearDay l G a S p0 h0) F_X0_yearDay rfl bw182 bw184 bw3 hE hP (va_recv hE.K hP (ci := 2) (q0 := 0) rfl rfl) hl.1 dX0_dateField_151 ⟨Nat.le_of_ble_eq_true rfl, Nat.le_of_ble_eq_true rfl⟩ rfl (Nat.le_of_ble_eq_true rfl) ⟨Nat.zero_le _, Nat.zero_le _⟩ ?_
    refine lv_iconst (v := (1 : Int32)) hx hb dX0_dateField_154 (by decide) ?_
    refine lv_isub hx hb dX0_dateField_155 ?_
    refine lv_bipush (v := (7 : Int32)) hx hb dX0_dateField_156 (by decide) ?_
    refine lv_idiv hx hb dX0_dateField_158 (by decide) ?_
    refine lv_iconst (v := (1 : Int32)) hx hb dX0_dateField_159 (by decide) ?_
    refine lv_iadd hx hb dX0_dateField_160 ?_
    refine lv_i2l (v := (((((fX0_yearDay S p0) - (1 : Int32)) / (7 : Int32)) + (1 : Int32)).toInt64)) hx hb dX0_dateField_161 (by first | rfl | decide) ?_
    exact re_l hx hb hr hk dX0_dateField_162 (el (Eq.trans (if_neg c_1) (Eq.trans (if_neg c_2) (Eq.trans (if_neg c_3) (Eq.trans (if_neg c_4) (Eq.trans (if_neg c_5) (Eq.trans (if_neg c_6) (Eq.trans (if_neg c_7) (if_pos c_8)))))))))
  by_cases c_9 : p1 = (23 : Int32)
  · refine lv_tableIn (tgt := 163) (off := 155) hx hb dX0_dateField_8 (by rw [c_9]; decide) (by rw [c_9]; decide) (by rw [c_9]; decide) (by decide) ?_
    refine lv_aload_n hx hb dX0_dateField_163 rfl (lv_at hl 1 rfl) ?_
    refine va_get (D := gD G) (cl := vwCl) (tys := gT G) (ci := 2) (v := .ref (a 2)) (C := RX0) (T := TX0) (N := 12) hx hb hw inB_X0 hown hE.K hP 0 rfl rfl 1 (by decide) (hw _ bw95) (fun _ h9 => h9) rfl dX0_dateField_164 ?_
    refine lv_iload_n hx hb dX0_dateField_167 rfl (lv_at hl 2 rfl) ?_
    refine va_iald (tys := gT G) hx hb hE.K hP 2 0 rfl rfl h0 dX0_dateField_168 ?_
    refine lv_i2l (v := ((xm S p0.toNatClampNeg).toInt64)) hx hb dX0_dateField_169 (by first | rfl | decide) ?_
    exact re_l hx hb hr hk dX0_dateField_170 (el (Eq.trans (if_neg c_1) (Eq.trans (if_neg c_2) (Eq.trans (if_neg c_3) (Eq.trans (if_neg c_4) (Eq.trans (if_neg c_5) (Eq.trans (if_neg c_6) (Eq.trans (if_neg c_7) (Eq.trans (if_neg c_8) (if_pos c_9))))))))))
  by_cases c_10 : p1 = (24 : Int32)
  · refine lv_tableIn (tgt := 171) (off := 163) hx hb dX0_dateField_8 (by rw [c_10]; decide) (by rw [c_10]; decide) (by rw [c_10]; decide) (by decide) ?_
    refine lv_aload_n hx hb dX0_dateField_171 rfl (lv_at hl 1 rfl) ?_
    refine lv_iload_n hx hb dX0_dateField_172 rfl (lv_at hl 2 rfl) ?_
    refine rcVl (as := [.int p0]) (rest := []) (cl := RX0) C (c_X0_monthCount l G a S p0 h0) F_X0_monthCount rfl bw548 bw550 bw25 hE hP (va_recv hE.K hP (ci := 2) (q0 := 0) rfl rfl) hl.1 dX0_dateField_173 ⟨Nat.le_of_ble_eq_true rfl, Nat.le_of_ble_eq_true rfl⟩ rfl (Nat.le_of_ble_eq_true rfl) ⟨Nat.zero_le _, Nat.zero_le _⟩ ?_
    exact re_l hx hb hr hk dX0_dateField_176 (el (Eq.trans (if_neg c_1) (Eq.trans (if_neg c_2) (Eq.trans (if_neg c_3) (Eq.trans (if_neg c_4) (Eq.trans (if_neg c_5) (Eq.trans (if_neg c_6) (Eq.trans (if_neg c_7) (Eq.trans (if_neg c_8) (Eq.trans (if_neg c_9) (if_pos c_10)))))))))))
  by_cases c_11 : p1 = (25 : Int32)
  · refine lv_tableIn (tgt := 177) (off := 169) hx hb dX0_dateField_8 (by rw [c_11]; decide) (by rw [c_11]; decide) (by rw [c_11]; decide) (by decide) ?_
    refine lv_iload_n hx hb dX0_dateField_177 rfl (lv_at hl 0 rfl) ?_
    refine lv_if_le (tgt := 186) hx hb dX0_dateField_178 (by decide) (fun c_12 => ?_) (fun c_12 => ?_)
    · refine lv_iconst (v := (1 : Int32)) hx hb dX0_dateField_186 (by decide) ?_
      refine lv_iload_n hx hb dX0_dateField_187 rfl (lv_at hl 0 rfl) ?_
      refine lv_isub hx hb dX0_dateField_188 ?_
      refine lv_i2l (v := (((1 : Int32) - (xy S p0.toNatClampNeg)).toInt64)) hx hb dX0_dateField_189 (by first | rfl | decide) ?_
      exact re_l hx hb hr hk dX0_dateField_190 (el (Eq.trans (if_neg c_1) (Eq.trans (if_neg c_2) (Eq.trans (if_neg c_3) (Eq.trans (if_neg c_4) (Eq.trans (if_neg c_5) (Eq.trans (if_neg c_6) (Eq.trans (if_neg c_7) (Eq.trans (if_neg c_8) (Eq.trans (if_neg c_9) (Eq.trans (if_neg c_10) (Eq.trans (if_pos c_11) (if_pos c_12)))))))))))))
    · refine lv_iload_n hx hb dX0_dateField_181 rfl (lv_at hl 0 rfl) ?_
      refine lv_i2l (v := ((xy S p0.toNatClampNeg).toInt64)) hx hb dX0_dateField_182 (by first | rfl | decide) ?_
      refine lv_goto (tgt := 190) hx hb dX0_dateField_183 (by decide) ?_
      exact re_l hx hb hr hk dX0_dateField_190 (el (Eq.trans (if_neg c_1) (Eq.trans (if_neg c_2) (Eq.trans (if_neg c_3) (Eq.trans (if_neg c_4) (Eq.trans (if_neg c_5) (Eq.trans (if_neg c_6) (Eq.trans (if_neg c_7) (Eq.trans (if_neg c_8) (Eq.trans (if_neg c_9) (Eq.trans (if_neg c_10) (Eq.trans (if_pos c_11) (if_neg c_12)))))))))))))
  by_cases c_13 : p1 = (26 : Int32)
  · refine lv_tableIn (tgt := 191) (off := 183) hx hb dX0_dateField_8 (by rw [c_13]; decide) (by rw [c_13]; decide) (by rw [c_13]; decide) (by decide) ?_
    refine lv_iload_n hx hb dX0_dateField_191 rfl (lv_at hl 0 rfl) ?_
    refine lv_i2l (v := ((xy S p0.toNatClampNeg).toInt64)) hx hb dX0_dateField_192 (by first | rfl | decide) ?_
    exact re_l hx hb hr hk dX0_dateField_193 (el (Eq.trans (if_neg c_1) (Eq.trans (if_neg c_2) (Eq.trans (if_neg c_3) (Eq.trans (if_neg c_4) (Eq.trans (if_neg c_5) (Eq.trans (if_neg c_6) (Eq.trans (if_neg c_7) (Eq.trans (if_neg c_8) (Eq.trans (if_neg c_9) (Eq.trans (if_neg c_10) (Eq.trans (if_neg c_11) (if_pos c_13)))))))))))))
  have nc_1 := lv_neT c_1 (a := 15) (by decide)
  have nc_2 := lv_neT c_2 (a := 16) (by decide)
  have nc_3 := lv_neT c_3 (a := 17) (by decide)
  have nc_4 := lv_neT c_4 (a := 18) (by decide)
  have nc_5 := lv_neT c_5 (a := 19) (by decide)
  have nc_6 := lv_neT c_6 (a := 20) (by decide)
  have nc_7 := lv_neT c_7 (a := 21) (by decide)
  have nc_8 := lv_neT c_8 (a := 22) (by decide)
  have nc_9 := lv_neT c_9 (a := 23) (by decide)
  have nc_10 := lv_neT c_10 (a := 24) (by decide)
  have nc_11 := lv_neT c_11 (a := 25) (by decide)
  have nc_13 := lv_neT c_13 (a := 26) (by decide)
  refine lv_tableOut (tgt := 194) hx hb dX0_dateField_8 (by omega) (by decide) ?_
  refine lv_iload_n hx hb dX0_dateField_194 rfl (lv_at hl 0 rfl) ?_
  refine lv_if_le (tgt := 202) hx hb dX0_dateField_195 (by decide) (fun c_14 => ?_) (fun c_14 => ?_)
  · refine lv_lconst (v := (0 : Int64)) hx hb dX0_dateField_202 (by decide) ?_
    exact re_l hx hb hr hk dX0_dateField_203 (el (Eq.trans (if_neg c_1) (Eq.trans (if_neg c_2) (Eq.trans (if_neg c_3) (Eq.trans (if_neg c_4) (Eq.trans (if_neg c_5) (Eq.trans (if_neg c_6) (Eq.trans (if_neg c_7) (Eq.trans (if_neg c_8) (Eq.trans (if_neg c_9) (Eq.trans (if_neg c_10) (Eq.trans (if_neg c_11) (Eq.trans (if_neg c_13) (if_pos c_14))))))))))))))
  · refine lv_lconst (v := (1 : Int64)) hx hb dX0_dateField_198 (by decide) ?_
    refine lv_goto (tgt := 203) hx hb dX0_dateField_199 (by decide) ?_
    exact re_l hx hb hr hk dX0_dateField_203 (el (Eq.trans (if_neg c_1) (Eq.trans (if_neg c_2) (Eq.trans (if_neg c_3) (Eq.trans (if_neg c_4) (Eq.trans (if_neg c_5) (Eq.trans (if_neg c_6) (Eq.trans (if_neg c_7) (Eq.trans (if_neg c_8) (Eq.trans (if_neg c_9) (Eq.trans (if_neg c_10) (Eq.trans (if_neg c_11) (Eq.trans (if_neg c_13) (if_neg c_14))))))))))))))

set_option maxRecDepth 100000 in
set_option maxHeartbeats 4000000 in
theorem c_X2_dayNow (l : Launch) (G : GT) (b : Nat → Nat) (T : SM) (p0 : Int32) (h0 : vp_in p0 6) (hT : MO T) : RO l G yX2_dayNow cX2_dayNow 2 (some .long) 5 [.ref (b 0), .int p0] (wM G b T) (some (.long (fX2_dayNow T p0))) := by
  refine RO.ofW (own := RX2) rfl (by decide +kernel) (Nat.le_of_ble_eq_true rfl) ?_
  intro p e s m below meth c C hr hk hE hP ls hl
  have hx := C.1
  have hb := C.2.1
  have hown := C.2.2.2.1
  have hw := C.2.2.2.2
  have hl : lv_has ls 2 [(0, .ref (b 0)), (1, .int p0)] := hl
  refine lv_aload_n hx hb dX2_dayNow_0 rfl (lv_at hl 0 rfl) ?_
  refine va_get (D := gD G) (cl := vwCl) (tys := gT G) (ci := 4) (v := .ref (b 1)) (C := RX2) (T := TX2) (N := 12) hx hb hw inB_X2 hown hE.K hP 0 rfl rfl 1 (by decide) (hw _ bw1164) (fun _ h9 => h9) rfl dX2_dayNow_1 ?_
  refine lv_iload_n hx hb dX2_dayNow_4 rfl (lv_at hl 1 rfl) ?_
  refine va_iald (tys := gT G) hx hb hE.K hP 1 0 rfl rfl h0 dX2_dayNow_5 ?_
  refine lv_aload_n hx hb dX2_dayNow_6 rfl (lv_at hl 0 rfl) ?_
  refine va_get (D := gD G) (cl := vwCl) (tys := gT G) (ci := 4) (v := .ref (b 2)) (C := RX2) (T := TX2) (N := 12) hx hb hw inB_X2 hown hE.K hP 0 rfl rfl 2 (by decide) (hw _ bw1165) (fun _ h9 => h9) rfl dX2_dayNow_7 ?_
  refine lv_iload_n hx hb dX2_dayNow_10 rfl (lv_at hl 1 rfl) ?_
  refine va_iald (tys := gT G) hx hb hE.K hP 2 0 rfl rfl h0 dX2_dayNow_11 ?_
  refine lv_aload_n hx hb dX2_dayNow_12 rfl (lv_at hl 0 rfl) ?_
  refine va_get (D := gD G) (cl := vwCl) (tys := gT G) (ci := 4) (v := .ref (b 3)) (C := RX2) (T := TX2) (N := 12) hx hb hw inB_X2 hown hE.K hP 0 rfl rfl 3 (by decide) (hw _ bw1166) (fun _ h9 => h9) rfl dX2_dayNow_13 ?_
  refine lv_iload_n hx hb dX2_dayNow_16 rfl (lv_at hl 1 rfl) ?_
  refine va_iald (tys := gT G) hx hb hE.K hP 3 0 rfl rfl h0 dX2_dayNow_17 ?_
  refine rcSl (as := [.int (my T p0.toNatClampNeg), .int (mm T p0.toNatClampNeg), .int (md T p0.toNatClampNeg)]) (rest := []) C (c_X2_dayOf l G (my T p0.toNatClampNeg) (mm T p0.toNatClampNeg) (md T p0.toNatClampNeg) (MO.at hT h0)) F_X2_dayOf rfl bw1251 bw1252 hE vpn hl.1 dX2_dayNow_18 ⟨Nat.le_of_ble_eq_true rfl, Nat.le_of_ble_eq_true rfl⟩ rfl (Nat.le_of_ble_eq_true rfl) ⟨Nat.zero_le _, Nat.zero_le _⟩ ?_
  exact re_l hx hb hr hk dX2_dayNow_21 (el rfl)

