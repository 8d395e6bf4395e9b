set_option maxRecDepth 100000 in
set_option maxHeartbeats 4000000 in
theorem c_X2_ofDate (l : Launch) (G : GT) (b : Nat → Nat) (T : SM) (p0 : Int32) (p1 : Int32) (h0 : vp_in p0 6) (hT : MO T) : RO l G yX2_ofDate cX2_ofDate 6 (some .long) 7 [.ref (b 0), .int p0, .int p1] (wM G b T) (some (.long (fX2_ofDate T p0 p1))) := by
  refine RO.ofW (own := RX2) rfl (by decide +kernel) (Nat.le_of_ble_eq_true rfl) ?_
  intro p e s m below meth c C hr hk hE hP ls hl
  have hx := C.1
  have hb := C.2.1
  have hown := C.2.2.2.1
  have hw := C.2.2.2.2
  have hl : lv_has ls 6 [(0, .ref (b 0)), (1, .int p0), (2, .int p1)] := hl
  refine lv_aload_n hx hb dX2_ofDate_0 rfl (lv_at hl 0 rfl) ?_
  refine va_get (D := gD G) (cl := vwCl) (tys := gT G) (ci := 4) (v := .ref (b 3)) (C := RX2) (T := TX2) (N := 12) hx hb hw inB_X2 hown hE.K hP 0 rfl rfl 3 (by decide) (hw _ bw1166) (fun _ h9 => h9) rfl dX2_ofDate_1 ?_
  refine lv_iload_n hx hb dX2_ofDate_4 rfl (lv_at hl 1 rfl) ?_
  refine va_iald (tys := gT G) hx hb hE.K hP 3 0 rfl rfl h0 dX2_ofDate_5 ?_
  refine lv_iconst (v := (1 : Int32)) hx hb dX2_ofDate_6 (by decide) ?_
  refine lv_isub hx hb dX2_ofDate_7 ?_
  refine lv_istore_n (lv' := [(3, .int ((md T p0.toNatClampNeg) - (1 : Int32))), (0, .ref (b 0)), (1, .int p0), (2, .int p1)]) hx hb dX2_ofDate_8 rfl hl (Nat.le_of_ble_eq_true rfl) rfl (fun ls hl => ?_)
  refine lv_aload_n hx hb dX2_ofDate_9 rfl (lv_at hl 1 rfl) ?_
  refine lv_iload_n hx hb dX2_ofDate_10 rfl (lv_at hl 2 rfl) ?_
  refine rcVi (as := [.int p0]) (rest := []) (cl := RX2) C (c_X2_inYearNow l G b T p0 h0 hT) F_X2_inYearNow rfl bw1464 bw1466 bw44 hE hP (rv4 hE.K hP (q0 := 0) rfl) hl.1 dX2_ofDate_11 ⟨Nat.le_of_ble_eq_true rfl, Nat.le_of_ble_eq_true rfl⟩ rfl (Nat.le_of_ble_eq_true rfl) ⟨Nat.zero_le _, Nat.zero_le _⟩ ?_
  refine lv_iconst (v := (1 : Int32)) hx hb dX2_ofDate_14 (by decide) ?_
  refine lv_isub hx hb dX2_ofDate_15 ?_
  refine lv_istore (lv' := [(4, .int ((fX2_inYearNow T p0) - (1 : Int32))), (3, .int ((md T p0.toNatClampNeg) - (1 : Int32))), (0, .ref (b 0)), (1, .int p0), (2, .int p1)]) hx hb dX2_ofDate_16 hl (Nat.le_of_ble_eq_true rfl) rfl (fun ls hl => ?_)
  refine lv_aload_n hx hb dX2_ofDate_18 rfl (lv_at hl 2 rfl) ?_
  refine va_get (D := gD G) (cl := vwCl) (tys := gT G) (ci := 4) (v := .ref (b 1)) (C := RX2) (T := TX2) (N := 12) hx hb hw inB_X2 hown hE.K hP 0 rfl rfl 1 (by decide) (hw _ bw1164) (fun _ h9 => h9) rfl dX2_ofDate_19 ?_
  refine lv_iload_n hx hb dX2_ofDate_22 rfl (lv_at hl 3 rfl) ?_
  refine va_iald (tys := gT G) hx hb hE.K hP 1 0 rfl rfl h0 dX2_ofDate_23 ?_
  refine lv_istore (lv' := [(5, .int (my T p0.toNatClampNeg)), (4, .int ((fX2_inYearNow T p0) - (1 : Int32))), (3, .int ((md T p0.toNatClampNeg) - (1 : Int32))), (0, .ref (b 0)), (1, .int p0), (2, .int p1)]) hx hb dX2_ofDate_24 hl (Nat.le_of_ble_eq_true rfl) rfl (fun ls hl => ?_)
  refine lv_iload_n hx hb dX2_ofDate_26 rfl (lv_at hl 5 rfl) ?_
  by_cases c_1 : p1 = (15 : Int32)
  · refine lv_tableIn (tgt := 88) (off := 61) hx hb dX2_ofDate_27 (by rw [c_1]; decide) (by rw [c_1]; decide) (by rw [c_1]; decide) (by decide) ?_
    refine lv_aload_n hx hb dX2_ofDate_88 rfl (lv_at hl 3 rfl) ?_
    refine lv_iload_n hx hb dX2_ofDate_89 rfl (lv_at hl 4 rfl) ?_
    refine rcVi (as := [.int p0]) (rest := []) (cl := RX2) C (c_X2_weekDayNow l G b T p0 h0 hT) F_X2_weekDayNow rfl bw1243 bw1245 bw37 hE hP (rv4 hE.K hP (q0 := 0) rfl) hl.1 dX2_ofDate_90 ⟨Nat.le_of_ble_eq_true rfl, Nat.le_of_ble_eq_true rfl⟩ rfl (Nat.le_of_ble_eq_true rfl) ⟨Nat.zero_le _, Nat.zero_le _⟩ ?_
    refine lv_i2l (v := ((fX2_weekDayNow T p0).toInt64)) hx hb dX2_ofDate_93 (by first | rfl | decide) ?_
    exact re_l hx hb hr hk dX2_ofDate_94 (el (if_pos c_1))
  by_cases c_2 : p1 = (16 : Int32)
  · refine lv_tableIn (tgt := 95) (off := 68) hx hb dX2_ofDate_27 (by rw [c_2]; decide) (by rw [c_2]; decide) (by rw [c_2]; decide) (by decide) ?_
    refine lv_iload_n hx hb dX2_ofDate_95 rfl (lv_at hl 2 rfl) ?_
    refine lv_bipush (v := (7 : Int32)) hx hb dX2_ofDate_96 (by decide) ?_
    refine lv_irem hx hb dX2_ofDate_98 (by decide) ?_
    refine lv_iconst (v := (1 : Int32)) hx hb dX2_ofDate_99 (by decide) ?_
    refine lv_iadd hx hb dX2_ofDate_100 ?_
    refine lv_i2l (v := (((((md T p0.toNatClampNeg) - (1 : Int32)) - ((md T p0.toNatClampNeg) - (1 : Int32)) / (7 : Int32) * (7 : Int32)) + (1 : Int32)).toInt64)) hx hb dX2_ofDate_101 (by first | rfl | decide) ?_
    exact re_l hx hb hr hk dX2_ofDate_102 (el (Eq.trans (if_neg c_1) (if_pos c_2)))
  by_cases c_3 : p1 = (17 : Int32)
  · refine lv_tableIn (tgt := 103) (off := 76) hx hb dX2_ofDate_27 (by rw [c_3]; decide) (by rw [c_3]; decide) (by rw [c_3]; decide) (by decide) ?_
    refine lv_iload hx hb dX2_ofDate_103 (lv_at hl 1 rfl) ?_
    refine lv_bipush (v := (7 : Int32)) hx hb dX2_ofDate_105 (by decide) ?_
    refine lv_irem hx hb dX2_ofDate_107 (by decide) ?_
    refine lv_iconst (v := (1 : Int32)) hx hb dX2_ofDate_108 (by decide) ?_
    refine lv_iadd hx hb dX2_ofDate_109 ?_
    refine lv_i2l (v := (((((fX2_inYearNow T p0) - (1 : Int32)) - ((fX2_inYearNow T p0) - (1 : Int32)) / (7 : Int32) * (7 : Int32)) + (1 : Int32)).toInt64)) hx hb dX2_ofDate_110 (by first | rfl | decide) ?_
    exact re_l hx hb hr hk dX2_ofDate_111 (el (Eq.trans (if_neg c_1) (Eq.trans (if_neg c_2) (if_pos c_3))))
  by_cases c_4 : p1 = (18 : Int32)
  · refine lv_tableIn (tgt := 112) (off := 85) hx hb dX2_ofDate_27 (by rw [c_4]; decide) (by rw [c_4]; decide) (by rw [c_4]; decide) (by decide) ?_
    refine lv_iload_n hx hb dX2_ofDate_112 rfl (lv_at hl 2 rfl) ?_
    refine lv_iconst (v := (1 : Int32)) hx hb dX2_ofDate_113 (by decide) ?_
    refine lv_iadd hx hb dX2_ofDate_114 ?_
    refine lv_i2l (v := ((((md T p0.toNatClampNeg) - (1 : Int32)) + (1 : Int32)).toInt64)) hx hb dX2_ofDate_115 (by first | rfl | decide) ?_
    exact re_l hx hb hr hk dX2_ofDate_116 (el (Eq.trans (if_neg c_1) (Eq.trans (if_neg c_2) (Eq.trans (if_neg c_3) (if_pos c_4)))))
  by_cases c_5 : p1 = (19 : Int32)
  · refine lv_tableIn (tgt := 117) (off := 90) hx hb dX2_ofDate_27 (by rw [c_5]; decide) (by rw [c_5]; decide) (by rw [c_5]; decide) (by decide) ?_
    refine lv_iload hx hb dX2_ofDate_117 (lv_at hl 1 rfl) ?_
    refine lv_iconst (v := (1 : Int32)) hx hb dX2_ofDate_119 (by decide) ?_
    refine lv_iadd hx hb dX2_ofDate_120 ?_
    refine lv_i2l (v := ((((fX2_inYearNow T p0) - (1 : Int32)) + (1 : Int32)).toInt64)) hx hb dX2_ofDate_121 (by first | rfl | decide) ?_
    exact re_l hx hb hr hk dX2_ofDate_122 (el (Eq.trans (if_neg c_1) (Eq.trans (if_neg c_2) (Eq.trans (if_neg c_3) (Eq.trans (if_neg c_4) (if_pos c_5))))))
  by_cases c_6 : p1 = (20 : Int32)
  · refine lv_tableIn (tgt := 123) (off := 96) hx hb dX2_ofDate_27 (by rw [c_6]; decide) (by rw [c_6]; decide) (by rw [c_6]; decide) (by decide) ?_
    refine lv_aload_n hx hb dX2_ofDate_123 rfl (lv_at hl 3 rfl) ?_
    refine lv_iload_n hx hb dX2_ofDate_124 rfl (lv_at hl 4 rfl) ?_
    refine rcVl (as := [.int p0]) (rest := []) (cl := RX2) C (c_X2_dayNow l G b T p0 h0 hT) F_X2_dayNow rfl bw1247 bw1249 bw38 hE hP (rv4 hE.K hP (q0 := 0) rfl) hl.1 dX2_ofDate_125 ⟨Nat.le_of_ble_eq_true rfl, Nat.le_of_ble_eq_true rfl⟩ rfl (Nat.le_of_ble_eq_true rfl) ⟨Nat.zero_le _, Nat.zero_le _⟩ ?_
    exact re_l hx hb hr hk dX2_ofDate_128 (el (Eq.trans (if_neg c_1) (Eq.trans (if_neg c_2) (Eq.trans (if_neg c_3) (Eq.trans (if_neg c_4) (Eq.trans (if_neg c_5) (if_pos c_6)))))))
  by_cases c_7 : p1 = (21 : Int32)
  · refine lv_tableIn (tgt := 129) (off := 102) hx hb dX2_ofDate_27 (by rw [c_7]; decide) (by rw [c_7]; decide) (by rw [c_7]; decide) (by decide) ?_
    refine lv_iload_n hx hb dX2_ofDate_129 rfl (lv_at hl 2 rfl) ?_
    refine lv_bipush (v := (7 : Int32)) hx hb dX2_ofDate_130 (by decide) ?_
    refine lv_idiv hx hb dX2_ofDate_132 (by decide) ?_
    refine lv_iconst (v := (1 : Int32)) hx hb dX2_ofDate_133 (by decide) ?_
    refine lv_iadd hx hb dX2_ofDate_134 ?_
    refine lv_i2l (v := (((((md T p0.toNatClampNeg) - (1 : Int32)) / (7 : Int32)) + (1 : Int32)).toInt64)) hx hb dX2_ofDate_135 (by first | rfl | decide) ?_
    exact re_l hx hb hr hk dX2_ofDate_136 (el (Eq.trans (if_neg c_1) (Eq.trans (if_neg c_2) (Eq.trans (if_neg c_3) (Eq.trans (if_neg c_4) (Eq.trans (if_neg c_5) (Eq.trans (if_neg c_6) (if_pos c_7))))))))
  by_cases c_8 : p1 = (22 : Int32)
  · refine lv_tableIn (tgt := 137) (off := 110) hx hb dX2_ofDate_27 (by rw [c_8]; decide) (by rw [c_8]; decide) (by rw [c_8]; decide) (by decide) ?_
    refine lv_iload hx hb dX2_ofDate_137 (lv_at hl 1 rfl) ?_
    refine lv_bipush (v := (7 : Int32)) hx hb dX2_ofDate_139 (by decide) ?_
    refine lv_idiv hx hb dX2_ofDate_141 (by decide) ?_
    refine lv_iconst (v := (1 : Int32)) hx hb dX2_ofDate_142 (by decide) ?_
    refine lv_iadd hx hb dX2_ofDate_143 ?_
    refine lv_i2l (v := (((((fX2_inYearNow T p0) - (1 : Int32)) / (7 : Int32)) + (1 : Int32)).toInt64)) hx hb dX2_ofDate_144 (by first | rfl | decide) ?_
    exact re_l hx hb hr hk dX2_ofDate_145 (el (Eq.trans (if_neg c_1) (Eq.trans (if_neg c_2) (Eq.trans (if_neg c_3) (Eq.trans (if_neg c_4) (Eq.trans (if_neg c_5) (Eq.trans (if_neg c_6) (Eq.trans (if_neg c_7) (if_pos c_8)))))))))
  by_cases c_9 : p1 = (23 : Int32)
  · refine lv_tableIn (tgt := 146) (off := 119) hx hb dX2_ofDate_27 (by rw [c_9]; decide) (by rw [c_9]; decide) (by rw [c_9]; decide) (by decide) ?_
    refine lv_aload_n hx hb dX2_ofDate_146 rfl (lv_at hl 3 rfl) ?_
    refine va_get (D := gD G) (cl := vwCl) (tys := gT G) (ci := 4) (v := .ref (b 2)) (C := RX2) (T := TX2) (N := 12) hx hb hw inB_X2 hown hE.K hP 0 rfl rfl 2 (by decide) (hw _ bw1165) (fun _ h9 => h9) rfl dX2_ofDate_147 ?_
    refine lv_iload_n hx hb dX2_ofDate_150 rfl (lv_at hl 4 rfl) ?_
    refine va_iald (tys := gT G) hx hb hE.K hP 2 0 rfl rfl h0 dX2_ofDate_151 ?_
    refine lv_i2l (v := ((mm T p0.toNatClampNeg).toInt64)) hx hb dX2_ofDate_152 (by first | rfl | decide) ?_
    exact re_l hx hb hr hk dX2_ofDate_153 (el (Eq.trans (if_neg c_1) (Eq.trans (if_neg c_2) (Eq.trans (if_neg c_3) (Eq.trans (if_neg c_4) (Eq.trans (if_neg c_5) (Eq.trans (if_neg c_6) (Eq.trans (if_neg c_7) (Eq.trans (if_neg c_8) (if_pos c_9))))))))))
  by_cases c_10 : p1 = (24 : Int32)
  · refine lv_tableIn (tgt := 154) (off := 127) hx hb dX2_ofDate_27 (by rw [c_10]; decide) (by rw [c_10]; decide) (by rw [c_10]; decide) (by decide) ?_
    refine lv_ldc2 (v := (12 : Int64)) hx hb hown (hw _ bw1368) dX2_ofDate_154 ?_
    refine lv_iload hx hb dX2_ofDate_157 (lv_at hl 0 rfl) ?_
    refine lv_i2l (v := ((my T p0.toNatClampNeg).toInt64)) hx hb dX2_ofDate_159 (by first | rfl | decide) ?_
    refine lv_lmul hx hb dX2_ofDate_160 ?_
    refine lv_aload_n hx hb dX2_ofDate_161 rfl (lv_at hl 3 rfl) ?_
    refine va_get (D := gD G) (cl := vwCl) (tys := gT G) (ci := 4) (v := .ref (b 2)) (C := RX2) (T := TX2) (N := 12) hx hb hw inB_X2 hown hE.K hP 0 rfl rfl 2 (by decide) (hw _ bw1165) (fun _ h9 => h9) rfl dX2_ofDate_162 ?_
    refine lv_iload_n hx hb dX2_ofDate_165 rfl (lv_at hl 4 rfl) ?_
    refine va_iald (tys := gT G) hx hb hE.K hP 2 0 rfl rfl h0 dX2_ofDate_166 ?_
    refine lv_i2l (v := ((mm T p0.toNatClampNeg).toInt64)) hx hb dX2_ofDate_167 (by first | rfl | decide) ?_
    refine lv_ladd hx hb dX2_ofDate_168 ?_
    refine lv_lconst (v := (1 : Int64)) hx hb dX2_ofDate_169 (by decide) ?_
    refine lv_lsub hx hb dX2_ofDate_170 ?_
    exact re_l hx hb hr hk dX2_ofDate_171 (el (Eq.trans (if_neg c_1) (Eq.trans (if_neg c_2) (Eq.trans (if_neg c_3) (Eq.trans (if_neg c_4) (Eq.trans (if_neg c_5) (Eq.trans (if_neg c_6) (Eq.trans (if_neg c_7) (Eq.trans (if_neg c_8) (Eq.trans (if_neg c_9) (if_pos c_10)))))))))))
  by_cases c_11 : p1 = (25 : Int32)
  · refine lv_tableIn (tgt := 172) (off := 145) hx hb dX2_ofDate_27 (by rw [c_11]; decide) (by rw [c_11]; decide) (by rw [c_11]; decide) (by decide) ?_
    refine lv_iload hx hb dX2_ofDate_172 (lv_at hl 0 rfl) ?_
    refine lv_if_le (tgt := 183) hx hb dX2_ofDate_174 (by decide) (fun c_12 => ?_) (fun c_12 => ?_)
    · refine lv_iconst (v := (1 : Int32)) hx hb dX2_ofDate_183 (by decide) ?_
      refine lv_iload hx hb dX2_ofDate_184 (lv_at hl 0 rfl) ?_
      refine lv_isub hx hb dX2_ofDate_186 ?_
      refine lv_i2l (v := (((1 : Int32) - (my T p0.toNatClampNeg)).toInt64)) hx hb dX2_ofDate_187 (by first | rfl | decide) ?_
      exact re_l hx hb hr hk dX2_ofDate_188 (el (Eq.trans (if_neg c_1) (Eq.trans (if_neg c_2) (Eq.trans (if_neg c_3) (Eq.trans (if_neg c_4) (Eq.trans (if_neg c_5) (Eq.trans (if_neg c_6) (Eq.trans (if_neg c_7) (Eq.trans (if_neg c_8) (Eq.trans (if_neg c_9) (Eq.trans (if_neg c_10) (Eq.trans (if_pos c_11) (if_pos c_12)))))))))))))
    · refine lv_iload hx hb dX2_ofDate_177 (lv_at hl 0 rfl) ?_
      refine lv_i2l (v := ((my T p0.toNatClampNeg).toInt64)) hx hb dX2_ofDate_179 (by first | rfl | decide) ?_
      refine lv_goto (tgt := 188) hx hb dX2_ofDate_180 (by decide) ?_
      exact re_l hx hb hr hk dX2_ofDate_188 (el (Eq.trans (if_neg c_1) (Eq.trans (if_neg c_2) (Eq.trans (if_neg c_3) (Eq.trans (if_neg c_4) (Eq.trans (if_neg c_5) (Eq.trans (if_neg c_6) (Eq.trans (if_neg c_7) (Eq.trans (if_neg c_8) (Eq.trans (if_neg c_9) (Eq.trans (if_neg c_10) (Eq.trans (if_pos c_11) (if_neg c_12)))))))))))))
  by_cases c_13 : p1 = (26 : Int32)
  · refine lv_tableIn (tgt := 189) (off := 162) hx hb dX2_ofDate_27 (by rw [c_13]; decide) (by rw [c_13]; decide) (by rw [c_13]; decide) (by decide) ?_
    refine lv_iload hx hb dX2_ofDate_189 (lv_at hl 0 rfl) ?_
    refine lv_i2l (v := ((my T p0.toNatClampNeg).toInt64)) hx hb dX2_ofDate_191 (by first | rfl | decide) ?_
    exact re_l hx hb hr hk dX2_ofDate_192 (el (Eq.trans (if_neg c_1) (Eq.trans (if_neg c_2) (Eq.trans (if_neg c_3) (Eq.trans (if_neg c_4) (Eq.trans (if_neg c_5) (Eq.trans (if_neg c_6) (Eq.trans (if_neg c_7) (Eq.trans (if_neg c_8) (Eq.trans (if_neg c_9) (Eq.trans (if_neg c_10) (Eq.trans (if_neg c_11) (if_pos c_13)))))))))))))
  have nc_1 := lv_neT c_1 (a := 15) (by decide)
  have nc_2 := lv_neT c_2 (a := 16) (by decide)
  have nc_3 := lv_neT c_3 (a := 17) (by decide)
  have nc_4 := lv_neT c_4 (a := 18) (by decide)
  have nc_5 := lv_neT c_5 (a := 19) (by decide)
  have nc_6 := lv_neT c_6 (a := 20) (by decide)
  have nc_7 := lv_neT c_7 (a := 21) (by decide)
  have nc_8 := lv_neT c_8 (a := 22) (by decide)
  have nc_9 := lv_neT c_9 (a := 23) (by decide)
  have nc_10 := lv_neT c_10 (a := 24) (by decide)
  have nc_11 := lv_neT c_11 (a := 25) (by decide)
  have nc_13 := lv_neT c_13 (a := 26) (by decide)
  refine lv_tableOut (tgt := 193) hx hb dX2_ofDate_27 (by omega) (by decide) ?_
  refine lv_iload hx hb dX2_ofDate_193 (lv_at hl 0 rfl) ?_
  refine lv_if_le (tgt := 202) hx hb dX2_ofDate_195 (by decide) (fun c_14 => ?_) (fun c_14 => ?_)
  · refine lv_lconst (v := (0 : Int64)) hx hb dX2_ofDate_202 (by decide) ?_
    exact re_l hx hb hr hk dX2_ofDate_203 (el (Eq.trans (if_neg c_1) (Eq.trans (if_neg c_2) (Eq.trans (if_neg c_3) (Eq.trans (if_neg c_4) (Eq.trans (if_neg c_5) (Eq.trans (if_neg c_6) (Eq.trans (if_neg c_7) (Eq.trans (if_neg c_8) (Eq.trans (if_neg c_9) (Eq.trans (if_neg c_10) (Eq.trans (if_neg c_11) (Eq.trans (if_neg c_13) (if_pos c_14))))))))))))))
  · refine lv_lconst (v := (1 : Int64)) hx hb dX2_ofDate_198 (by decide) ?_
    refine lv_goto (tgt := 203) hx hb dX2_ofDate_199 (by decide) ?_
    exact re_l hx hb hr hk dX2_ofDate_203 (el (Eq.trans (if_neg c_1) (Eq.trans (if_neg c_2) (Eq.trans (if_neg c_3) (Eq.trans (if_neg c_4) (Eq.trans (if_neg c_5) (Eq.trans (if_neg c_6) (Eq.trans (if_neg c_7) (Eq.trans (if_neg c_8) (Eq.trans (if_neg c_9) (Eq.trans (if_neg c_10) (Eq.trans (if_neg c_11) (Eq.trans (if_neg c_13) (if_neg c_14))))))))))))))

set_option maxRecDepth 100000 in
set_option maxHeartbeats 4000000 in
theorem c_X2_order (l : Launch) (G : GT) (b : Nat → Nat) (T : SM) (p0 : Int32) (p1 : Int32) (h0 : vp_in p0 6) (h1 : vp_in p1 6) (hT : MO T) : RO l G yX2_order cX2_order 7 (some .int) 6 [.ref (b 0), .int p0, .int p1] (wM G b T) (some (.int (fX2_order T p0 p1))) := by
  refine RO.ofW (own := RX2) rfl (by decide +kernel) (Nat.le_of_ble_eq_true rfl) ?_
  intro p e s m below meth c C hr hk hE hP ls hl
  have hx := C.1
  have hb := C.2.1
  have hown := C.2.2.2.1
  have hw := C.2.2.2.2
  have hl : lv_has ls 7 [(0, .ref (b 0)), (1, .int p0), (2, .int p1)] := hl
  refine lv_aload_n hx hb dX2_order_0 rfl (lv_at hl 0 rfl) ?_
  refine lv_iload_n hx hb dX2_order_1 rfl (lv_at hl 1 rfl) ?_
  refine rcVl (as := [.int p0]) (rest := []) (cl := RX2) C (c_X2_dayNow l G b T p0 h0 hT) F_X2_dayNow rfl bw1247 bw1249 bw38 hE hP (rv4 hE.K hP (q0 := 0) rfl) hl.1 dX2_order_2 ⟨Nat.le_of_ble_eq_true rfl, Nat.le_of_ble_eq_true rfl⟩ rfl (Nat.le_of_ble_eq_true rfl) ⟨Nat.zero_le _, Nat.zero_le _⟩ ?_
  refine lv_aload_n hx hb dX2_order_5 rfl (lv_at hl 0 rfl) ?_
  refine lv_iload_n hx hb dX2_order_6 rfl (lv_at hl 2 rfl) ?_
  refine rcVl (as := [.int p1]) (rest := [.long (fX2_dayNow T p0)]) (cl := RX2) C (c_X2_dayNow l G b T p1 h1 hT) F_X2_dayNow rfl bw1247 bw1249 bw38 hE hP (rv4 hE.K hP (q0 := 0) rfl) hl.1 dX2_order_7 ⟨Nat.le_of_ble_eq_true rfl, Nat.le_of_ble_eq_true rfl⟩ rfl (Nat.le_of_ble_eq_true rfl) ⟨Nat.zero_le _, Nat.zero_le _⟩ ?_
  refine lv_lsub hx hb dX2_order_10 ?_
  refine lv_lstore_n (lv' := [(3, .long ((fX2_dayNow T p0) - (fX2_dayNow T p1))), (0, .ref (b 0)), (1, .int p0), (2, .int p1)]) hx hb dX2_order_11 rfl hl (Nat.le_of_ble_eq_true rfl) rfl (fun ls hl => ?_)
  refine lv_lload_n hx hb dX2_order_12 rfl (lv_at hl 0 rfl) ?_
  refine lv_lconst (v := (0 : Int64)) hx hb dX2_order_13 (by decide) ?_
  refine W.lcmp hx hb dX2_order_14 ?_
  refine lv_if_eq (tgt := 22) hx hb dX2_order_15 (by decide) (fun c_1 => ?_) (fun c_1 => ?_)
  · refine lv_aload_n hx hb dX2_order_22 rfl (lv_at hl 1 rfl) ?_
    refine va_get (D := gD G) (cl := vwCl) (tys := gT G) (ci := 4) (v := .ref (b 4)) (C := RX2) (T := TX2) (N := 12) hx hb hw inB_X2 hown hE.K hP 0 rfl rfl 4 (by decide) (hw _ bw1167) (fun _ h9 => h9) rfl dX2_order_23 ?_
    refine lv_iload_n hx hb dX2_order_26 rfl (lv_at hl 2 rfl) ?_
    refine va_lald (tys := gT G) hx hb hE.K hP 4 1 rfl rfl h0 dX2_order_27 ?_
    refine lv_aload_n hx hb dX2_order_28 rfl (lv_at hl 1 rfl) ?_
    refine va_get (D := gD G) (cl := vwCl) (tys := gT G) (ci := 4) (v := .ref (b 4)) (C := RX2) (T := TX2) (N := 12) hx hb hw inB_X2 hown hE.K hP 0 rfl rfl 4 (by decide) (hw _ bw1167) (fun _ h9 => h9) rfl dX2_order_29 ?_
    refine lv_iload_n hx hb dX2_order_32 rfl (lv_at hl 3 rfl) ?_
    refine va_lald (tys := gT G) hx hb hE.K hP 4 1 rfl rfl h1 dX2_order_33 ?_
    refine lv_lsub hx hb dX2_order_34 ?_
    refine lv_lstore (lv' := [(5, .long ((mt T p0.toNatClampNeg) - (mt T p1.toNatClampNeg))), (3, .long ((fX2_dayNow T p0) - (fX2_dayNow T p1))), (0, .ref (b 0)), (1, .int p0), (2, .int p1)]) hx hb dX2_order_35 hl (Nat.le_of_ble_eq_true rfl) rfl (fun ls hl => ?_)
    refine lv_lload hx hb dX2_order_37 (lv_at hl 0 rfl) ?_
    refine lv_lconst (v := (0 : Int64)) hx hb dX2_order_39 (by decide) ?_
    refine W.lcmp hx hb dX2_order_40 ?_
    refine lv_if_ge (tgt := 48) hx hb dX2_order_41 (by decide) (fun c_2 => ?_) (fun c_2 => ?_)
    · refine lv_lload hx hb dX2_order_48 (lv_at hl 0 rfl) ?_
      refine lv_lconst (v := (0 : Int64)) hx hb dX2_order_50 (by decide) ?_
      refine W.lcmp hx hb dX2_order_51 ?_
      refine lv_if_le (tgt := 59) hx hb dX2_order_52 (by decide) (fun c_3 => ?_) (fun c_3 => ?_)
      · refine lv_iconst (v := (0 : Int32)) hx hb dX2_order_59 (by decide) ?_
        exact re_i hx hb hr hk dX2_order_60 (ei (Eq.trans (if_pos c_1) (Eq.trans (if_pos c_2) (if_pos c_3))))
      · refine lv_iconst (v := (1 : Int32)) hx hb dX2_order_55 (by decide) ?_
        refine lv_goto (tgt := 60) hx hb dX2_order_56 (by decide) ?_
        exact re_i hx hb hr hk dX2_order_60 (ei (Eq.trans (if_pos c_1) (Eq.trans (if_pos c_2) (if_neg c_3))))
    · refine lv_iconst (v := (-1 : Int32)) hx hb dX2_order_44 (by decide) ?_
      refine lv_goto (tgt := 60) hx hb dX2_order_45 (by decide) ?_
      exact re_i hx hb hr hk dX2_order_60 (ei (Eq.trans (if_pos c_1) (if_neg c_2)))
  · refine lv_lload_n hx hb dX2_order_18 rfl (lv_at hl 0 rfl) ?_
    refine lv_goto (tgt := 35) hx hb dX2_order_19 (by decide) ?_
    refine lv_lstore (lv' := [(5, .long ((fX2_dayNow T p0) - (fX2_dayNow T p1))), (3, .long ((fX2_dayNow T p0) - (fX2_dayNow T p1))), (0, .ref (b 0)), (1, .int p0), (2, .int p1)]) hx hb dX2_order_35 hl (Nat.le_of_ble_eq_true rfl) rfl (fun ls hl => ?_)
    refine lv_lload hx hb dX2_order_37 (lv_at hl 0 rfl) ?_
    refine lv_lconst (v := (0 : Int64)) hx hb dX2_order_39 (by decide) ?_
    refine W.lcmp hx hb dX2_order_40 ?_
    refine lv_if_ge (tgt := 48) hx hb dX2_order_41 (by decide) (fun c_4 => ?_) (fun c_4 => ?_)
    · refine lv_lload hx hb dX2_order_48 (lv_at hl 0 rfl) ?_
      refine lv_lconst (v := (0 : Int64)) hx hb dX2_order_50 (by decide) ?_
      refine W.lcmp hx hb dX2_order_51 ?_
      refine lv_if_le (tgt := 59) hx hb dX2_order_52 (by decide) (fun c_5 => ?_) (fun c_5 => ?_)
      · refine lv_iconst (v := (0 : Int32)) hx hb dX2_order_59 (by decide) ?_
        exact re_i hx hb hr hk dX2_order_60 (ei (Eq.trans (if_neg c_1) (Eq.trans (if_pos c_4) (if_pos c_5))))
      · refine lv_iconst (v := (1 : Int32)) hx hb dX2_order_55 (by decide) ?_
        refine lv_goto (tgt := 60) hx hb dX2_order_56 (by decide) ?_
        exact re_i hx hb hr hk dX2_order_60 (ei (Eq.trans (if_neg c_1) (Eq.trans (if_pos c_4) (if_neg c_5))))
    · refine lv_iconst (v := (-1 : Int32)) hx hb dX2_order_44 (by decide) ?_
      refine lv_goto (tgt := 60) hx hb dX2_order_45 (by decide) ?_
      exact re_i hx hb hr hk dX2_order_60 (ei (Eq.trans (if_neg c_1) (if_neg c_4)))

set_option maxRecDepth 100000 in
set_option maxHeartbeats 4000000 in
theorem c_X2_lineBetween (l : Launch) (G : GT) (b : Nat → Nat) (T : SM) (p0 : Int32) (p1 : Int32) (p2 : Int32) (h0 : vp_in p0 6) (h1 : vp_in p1 6) (hT : MO T) : RO l G yX2_lineBetween cX2_lineBetween 8 (some .long) 6 [.ref (b 0), .int p0, .int p1, .int p2] (wM G b T) (some (.long (fX2_lineBetween T p0 p1 p2))) := by
  refine RO.ofW (own := RX2) rfl (by decide +kernel) (Nat.le_of_ble_eq_true rfl) ?_
  intro p e s m below meth c C hr hk hE hP ls hl
  have hx := C.1
  have hb := C.2.1
  have hown := C.2.2.2.1
  have hw := C.2.2.2.2
  have hl : lv_has ls 8 [(0, .ref (b 0)), (1, .int p0), (2, .int p1), (3, .int p2)] := hl
  refine lv_aload_n hx hb dX2_lineBetween_0 rfl (lv_at hl 0 rfl) ?_
  refine lv_iload_n hx hb dX2_lineBetween_1 rfl (lv_at hl 2 rfl) ?_
  refine rcVl (as := [.int p1]) (rest := []) (cl := RX2) C (c_X2_dayNow l G b T p1 h1 hT) F_X2_dayNow rfl bw1247 bw1249 bw38 hE hP (rv4 hE.K hP (q0 := 0) rfl) hl.1 dX2_lineBetween_2 ⟨Nat.le_of_ble_eq_true rfl, Nat.le_of_ble_eq_true rfl⟩ rfl (Nat.le_of_ble_eq_true rfl) ⟨Nat.zero_le _, Nat.zero_le _⟩ ?_
  refine lv_aload_n hx hb dX2_lineBetween_5 rfl (lv_at hl 0 rfl) ?_
  refine lv_iload_n hx hb dX2_lineBetween_6 rfl (lv_at hl 1 rfl) ?_
  refine rcVl (as := [.int p0]) (rest := [.long (fX2_dayNow T p1)]) (cl := RX2) C (c_X2_dayNow l G b T p0 h0 hT) F_X2_dayNow rfl bw1247 bw1249 bw38 hE hP (rv4 hE.K hP (q0 := 0) rfl) hl.1 dX2_lineBetween_7 ⟨Nat.le_of_ble_eq_true rfl, Nat.le_of_ble_eq_true rfl⟩ rfl (Nat.le_of_ble_eq_true rfl) ⟨Nat.zero_le _, Nat.zero_le _⟩ ?_
  refine lv_lsub hx hb dX2_lineBetween_10 ?_
  refine lv_lstore (lv' := [(4, .long ((fX2_dayNow T p1) - (fX2_dayNow T p0))), (0, .ref (b 0)), (1, .int p0), (2, .int p1), (3, .int p2)]) hx hb dX2_lineBetween_11 hl (Nat.le_of_ble_eq_true rfl) rfl (fun ls hl => ?_)
  refine lv_aload_n hx hb dX2_lineBetween_13 rfl (lv_at hl 1 rfl) ?_
  refine va_get (D := gD G) (cl := vwCl) (tys := gT G) (ci := 4) (v := .ref (b 4)) (C := RX2) (T := TX2) (N := 12) hx hb hw inB_X2 hown hE.K hP 0 rfl rfl 4 (by decide) (hw _ bw1167) (fun _ h9 => h9) rfl dX2_lineBetween_14 ?_
  refine lv_iload_n hx hb dX2_lineBetween_17 rfl (lv_at hl 3 rfl) ?_
  refine va_lald (tys := gT G) hx hb hE.K hP 4 1 rfl rfl h1 dX2_lineBetween_18 ?_
  refine lv_aload_n hx hb dX2_lineBetween_19 rfl (lv_at hl 1 rfl) ?_
  refine va_get (D := gD G) (cl := vwCl) (tys := gT G) (ci := 4) (v := .ref (b 4)) (C := RX2) (T := TX2) (N := 12) hx hb hw inB_X2 hown hE.K hP 0 rfl rfl 4 (by decide) (hw _ bw1167) (fun _ h9 => h9) rfl dX2_lineBetween_20 ?_
  refine lv_iload_n hx hb dX2_lineBetween_23 rfl (lv_at hl 2 rfl) ?_
  refine va_lald (tys := gT G) hx hb hE.K hP 4 1 rfl rfl h0 dX2_lineBetween_24 ?_
  refine lv_lsub hx hb dX2_lineBetween_25 ?_
  refine lv_lstore (lv' := [(6, .long ((mt T p1.toNatClampNeg) - (mt T p0.toNatClampNeg))), (4, .long ((fX2_dayNow T p1) - (fX2_dayNow T p0))), (0, .ref (b 0)), (1, .int p0), (2, .int p1), (3, .int p2)]) hx hb dX2_lineBetween_26 hl (Nat.le_of_ble_eq_true rfl) rfl (fun ls hl => ?_)
  refine lv_lload hx hb dX2_lineBetween_28 (lv_at hl 1 rfl) ?_
  refine lv_lconst (v := (0 : Int64)) hx hb dX2_lineBetween_30 (by decide) ?_
  refine W.lcmp hx hb dX2_lineBetween_31 ?_
  refine lv_if_le (tgt := 56) hx hb dX2_lineBetween_32 (by decide) (fun c_1 => ?_) (fun c_1 => ?_)
  · refine lv_lload hx hb dX2_lineBetween_56 (lv_at hl 1 rfl) ?_
    refine lv_lconst (v := (0 : Int64)) hx hb dX2_lineBetween_58 (by decide) ?_
    refine W.lcmp hx hb dX2_lineBetween_59 ?_
    refine lv_if_ge (tgt := 84) hx hb dX2_lineBetween_60 (by decide) (fun c_2 => ?_) (fun c_2 => ?_)
    · refine lv_iload_n hx hb dX2_lineBetween_84 rfl (lv_at hl 5 rfl) ?_
      refine lv_bipush (v := (8 : Int32)) hx hb dX2_lineBetween_85 (by decide) ?_
      refine lv_icmp_ne (tgt := 97) hx hb dX2_lineBetween_87 (by decide) (fun c_3 => ?_) (fun c_3 => ?_)
      · refine lv_lload hx hb dX2_lineBetween_97 (lv_at hl 1 rfl) ?_
        refine lv_ldc2 (v := (86400000000000 : Int64)) hx hb hown (hw _ bw1360) dX2_lineBetween_99 ?_
        refine lv_iload_n hx hb dX2_lineBetween_102 rfl (lv_at hl 5 rfl) ?_
        refine rcSl (as := [.int p2]) (rest := [.long (86400000000000 : Int64), .long ((fX2_dayNow T p1) - (fX2_dayNow T p0))]) C (c_X2_nanosOf l G p2) F_X2_nanosOf rfl bw1354 bw1355 hE vpn hl.1 dX2_lineBetween_103 ⟨Nat.le_of_ble_eq_true rfl, Nat.le_of_ble_eq_true rfl⟩ rfl (Nat.le_of_ble_eq_true rfl) ⟨Nat.zero_le _, Nat.zero_le _⟩ ?_
        refine lv_ldiv hx hb dX2_lineBetween_106 (nz_nanosOf p2) ?_
        refine lv_lmul hx hb dX2_lineBetween_107 ?_
        refine lv_lload hx hb dX2_lineBetween_108 (lv_at hl 0 rfl) ?_
        refine lv_iload_n hx hb dX2_lineBetween_110 rfl (lv_at hl 5 rfl) ?_
        refine rcSl (as := [.int p2]) (rest := [.long ((mt T p1.toNatClampNeg) - (mt T p0.toNatClampNeg)), .long (((fX2_dayNow T p1) - (fX2_dayNow T p0)) * ((86400000000000 : Int64) / (fX2_nanosOf p2)))]) C (c_X2_nanosOf l G p2) F_X2_nanosOf rfl bw1354 bw1355 hE vpn hl.1 dX2_lineBetween_111 ⟨Nat.le_of_ble_eq_true rfl, Nat.le_of_ble_eq_true rfl⟩ rfl (Nat.le_of_ble_eq_true rfl) ⟨Nat.zero_le _, Nat.zero_le _⟩ ?_
        refine lv_ldiv hx hb dX2_lineBetween_114 (nz_nanosOf p2) ?_
        refine lv_ladd hx hb dX2_lineBetween_115 ?_
        exact re_l hx hb hr hk dX2_lineBetween_116 (el (Eq.trans (if_pos c_1) (Eq.trans (if_pos c_2) (if_neg c_3))))
      · refine lv_lload hx hb dX2_lineBetween_90 (lv_at hl 1 rfl) ?_
        refine lv_ldc2 (v := (7 : Int64)) hx hb hown (hw _ bw1274) dX2_lineBetween_92 ?_
        refine lv_ldiv hx hb dX2_lineBetween_95 (by decide) ?_
        exact re_l hx hb hr hk dX2_lineBetween_96 (el (Eq.trans (if_pos c_1) (Eq.trans (if_pos c_2) (if_pos c_3))))
    · refine lv_lload hx hb dX2_lineBetween_63 (lv_at hl 0 rfl) ?_
      refine lv_lconst (v := (0 : Int64)) hx hb dX2_lineBetween_65 (by decide) ?_
      refine W.lcmp hx hb dX2_lineBetween_66 ?_
      refine lv_if_le (tgt := 84) hx hb dX2_lineBetween_67 (by decide) (fun c_4 => ?_) (fun c_4 => ?_)
      · refine lv_iload_n hx hb dX2_lineBetween_84 rfl (lv_at hl 5 rfl) ?_
        refine lv_bipush (v := (8 : Int32)) hx hb dX2_lineBetween_85 (by decide) ?_
        refine lv_icmp_ne (tgt := 97) hx hb dX2_lineBetween_87 (by decide) (fun c_5 => ?_) (fun c_5 => ?_)
        · refine lv_lload hx hb dX2_lineBetween_97 (lv_at hl 1 rfl) ?_
          refine lv_ldc2 (v := (86400000000000 : Int64)) hx hb hown (hw _ bw1360) dX2_lineBetween_99 ?_
          refine lv_iload_n hx hb dX2_lineBetween_102 rfl (lv_at hl 5 rfl) ?_
          refine rcSl (as := [.int p2]) (rest := [.long (86400000000000 : Int64), .long ((fX2_dayNow T p1) - (fX2_dayNow T p0))]) C (c_X2_nanosOf l G p2) F_X2_nanosOf rfl bw1354 bw1355 hE vpn hl.1 dX2_lineBetween_103 ⟨Nat.le_of_ble_eq_true rfl, Nat.le_of_ble_eq_true rfl⟩ rfl (Nat.le_of_ble_eq_true rfl) ⟨Nat.zero_le _, Nat.zero_le _⟩ ?_
          refine lv_ldiv hx hb dX2_lineBetween_106 (nz_nanosOf p2) ?_
          refine lv_lmul hx hb dX2_lineBetween_107 ?_
          refine lv_lload hx hb dX2_lineBetween_108 (lv_at hl 0 rfl) ?_
          refine lv_iload_n hx hb dX2_lineBetween_110 rfl (lv_at hl 5 rfl) ?_
          refine rcSl (as := [.int p2]) (rest := [.long ((mt T p1.toNatClampNeg) - (mt T p0.toNatClampNeg)), .long (((fX2_dayNow T p1) - (fX2_dayNow T p0)) * ((86400000000000 : Int64) / (fX2_nanosOf p2)))]) C (c_X2_nanosOf l G p2) F_X2_nanosOf rfl bw1354 bw1355 hE vpn hl.1 dX2_lineBetween_111 ⟨Nat.le_of_ble_eq_true rfl, Nat.le_of_ble_eq_true rfl⟩ rfl (Nat.le_of_ble_eq_true rfl) ⟨Nat.zero_le _, Nat.zero_le _⟩ ?_
          refine lv_ldiv hx hb dX2_lineBetween_114 (nz_nanosOf p2) ?_
          refine lv_ladd hx hb dX2_lineBetween_115 ?_
          exact re_l hx hb hr hk dX2_lineBetween_116 (el (Eq.trans (if_pos c_1) (Eq.trans (if_neg c_2) (Eq.trans (if_pos c_4) (if_neg c_5)))))
        · refine lv_lload hx hb dX2_lineBetween_90 (lv_at hl 1 rfl) ?_
          refine lv_ldc2 (v := (7 : Int64)) hx hb hown (hw _ bw1274) dX2_lineBetween_92 ?_
          refine lv_ldiv hx hb dX2_lineBetween_95 (by decide) ?_
          exact re_l hx hb hr hk dX2_lineBetween_96 (el (Eq.trans (if_pos c_1) (Eq.trans (if_neg c_2) (Eq.trans (if_pos c_4) (if_pos c_5)))))
      · refine lv_lload hx hb dX2_lineBetween_70 (lv_at hl 1 rfl) ?_
        refine lv_lconst (v := (1 : Int64)) hx hb dX2_lineBetween_72 (by decide) ?_
        refine lv_ladd hx hb dX2_lineBetween_73 ?_
        refine lv_lstore (lv' := [(4, .long (((fX2_dayNow T p1) - (fX2_dayNow T p0)) + (1 : Int64))), (6, .long ((mt T p1.toNatClampNeg) - (mt T p0.toNatClampNeg))), (0, .ref (b 0)), (1, .int p0), (2, .int p1), (3, .int p2)]) hx hb dX2_lineBetween_74 hl (Nat.le_of_ble_eq_true rfl) rfl (fun ls hl => ?_)
        refine lv_lload hx hb dX2_lineBetween_76 (lv_at hl 1 rfl) ?_
        refine lv_ldc2 (v := (86400000000000 : Int64)) hx hb hown (hw _ bw1360) dX2_lineBetween_78 ?_
        refine lv_lsub hx hb dX2_lineBetween_81 ?_
        refine lv_lstore (lv' := [(6, .long (((mt T p1.toNatClampNeg) - (mt T p0.toNatClampNeg)) - (86400000000000 : Int64))), (4, .long (((fX2_dayNow T p1) - (fX2_dayNow T p0)) + (1 : Int64))), (0, .ref (b 0)), (1, .int p0), (2, .int p1), (3, .int p2)]) hx hb dX2_lineBetween_82 hl (Nat.le_of_ble_eq_true rfl) rfl (fun ls hl => ?_)
        refine lv_iload_n hx hb dX2_lineBetween_84 rfl (lv_at hl 5 rfl) ?_
        refine lv_bipush (v := (8 : Int32)) hx hb dX2_lineBetween_85 (by decide) ?_
        refine lv_icmp_ne (tgt := 97) hx hb dX2_lineBetween_87 (by decide) (fun c_6 => ?_) (fun c_6 => ?_)
        · refine lv_lload hx hb dX2_lineBetween_97 (lv_at hl 1 rfl) ?_
          refine lv_ldc2 (v := (86400000000000 : Int64)) hx hb hown (hw _ bw1360) dX2_lineBetween_99 ?_
          refine lv_iload_n hx hb dX2_lineBetween_102 rfl (lv_at hl 5 rfl) ?_
          refine rcSl (as := [.int p2]) (rest := [.long (86400000000000 : Int64), .long (((fX2_dayNow T p1) - (fX2_dayNow T p0)) + (1 : Int64))]) C (c_X2_nanosOf l G p2) F_X2_nanosOf rfl bw1354 bw1355 hE vpn hl.1 dX2_lineBetween_103 ⟨Nat.le_of_ble_eq_true rfl, Nat.le_of_ble_eq_true rfl⟩ rfl (Nat.le_of_ble_eq_true rfl) ⟨Nat.zero_le _, Nat.zero_le _⟩ ?_
          refine lv_ldiv hx hb dX2_lineBetween_106 (nz_nanosOf p2) ?_
          refine lv_lmul hx hb dX2_lineBetween_107 ?_
          refine lv_lload hx hb dX2_lineBetween_108 (lv_at hl 0 rfl) ?_
          refine lv_iload_n hx hb dX2_lineBetween_110 rfl (lv_at hl 5 rfl) ?_
          refine rcSl (as := [.int p2]) (rest := [.long (((mt T p1.toNatClampNeg) - (mt T p0.toNatClampNeg)) - (86400000000000 : Int64)), .long ((((fX2_dayNow T p1) - (fX2_dayNow T p0)) + (1 : Int64)) * ((86400000000000 : Int64) / (fX2_nanosOf p2)))]) C (c_X2_nanosOf l G p2) F_X2_nanosOf rfl bw1354 bw1355 hE vpn hl.1 dX2_lineBetween_111 ⟨Nat.le_of_ble_eq_true rfl, Nat.le_of_ble_eq_true rfl⟩ rfl (Nat.le_of_ble_eq_true rfl) ⟨Nat.zero_le _, Nat.zero_le _⟩ ?_
          refine lv_ldiv hx hb dX2_lineBetween_114 (nz_nanosOf p2) ?_
          refine lv_ladd hx hb dX2_lineBetween_115 ?_
          exact re_l hx hb hr hk dX2_lineBetween_116 (el (Eq.trans (if_pos c_1) (Eq.trans (if_neg c_2) (Eq.trans (if_neg c_4) (if_neg c_6)))))
        · refine lv_lload hx hb dX2_lineBetween_90 (lv_at hl 1 rfl) ?_
          refine lv_ldc2 (v := (7 : Int64)) hx hb hown (hw _ bw1274) dX2_lineBetween_92 ?_
          refine lv_ldiv hx hb dX2_lineBetween_95 (by decide) ?_
          exact re_l hx hb hr hk dX2_lineBetween_96 (el (Eq.trans (if_pos c_1) (Eq.trans (if_neg c_2) (Eq.trans (if_neg c_4) (if_pos c_6)))))
  · refine lv_lload hx hb dX2_lineBetween_35 (lv_at hl 0 rfl) ?_
    refine lv_lconst (v := (0 : Int64)) hx hb dX2_lineBetween_37 (by decide) ?_
    refine W.lcmp hx hb dX2_lineBetween_38 ?_
    refine lv_if_ge (tgt := 56) hx hb dX2_lineBetween_39 (by decide) (fun c_7 => ?_) (fun c_7 => ?_)
    · refine lv_lload hx hb dX2_lineBetween_56 (lv_at hl 1 rfl) ?_
      refine lv_lconst (v := (0 : Int64)) hx hb dX2_lineBetween_58 (by decide) ?_
      refine W.lcmp hx hb dX2_lineBetween_59 ?_
      refine lv_if_ge (tgt := 84) hx hb dX2_lineBetween_60 (by decide) (fun c_8 => ?_) (fun c_8 => ?_)
      · refine lv_iload_n hx hb dX2_lineBetween_84 rfl (lv_at hl 5 rfl) ?_
        refine lv_bipush (v := (8 : Int32)) hx hb dX2_lineBetween_85 (by decide) ?_
        refine lv_icmp_ne (tgt := 97) hx hb dX2_lineBetween_87 (by decide) (fun c_9 => ?_) (fun c_9 => ?_)
        · refine lv_lload hx hb dX2_lineBetween_97 (lv_at hl 1 rfl) ?_
          refine lv_ldc2 (v := (86400000000000 : Int64)) hx hb hown (hw _ bw1360) dX2_lineBetween_99 ?_
          refine lv_iload_n hx hb dX2_lineBetween_102 rfl (lv_at hl 5 rfl) ?_
          refine rcSl (as := [.int p2]) (rest := [.long (86400000000000 : Int64), .long ((fX2_dayNow T p1) - (fX2_dayNow T p0))]) C (c_X2_nanosOf l G p2) F_X2_nanosOf rfl bw1354 bw1355 hE vpn hl.1 dX2_lineBetween_103 ⟨Nat.le_of_ble_eq_true rfl, Nat.le_of_ble_eq_true rfl⟩ rfl (Nat.le_of_ble_eq_true rfl) ⟨Nat.zero_le _, Nat.zero_le _⟩ ?_
          refine lv_ldiv hx hb dX2_lineBetween_106 (nz_nanosOf p2) ?_
          refine lv_lmul hx hb dX2_lineBetween_107 ?_
          refine lv_lload hx hb dX2_lineBetween_108 (lv_at hl 0 rfl) ?_
          refine lv_iload_n hx hb dX2_lineBetween_110 rfl (lv_at hl 5 rfl) ?_
          refine rcSl (as := [.int p2]) (rest := [.long ((mt T p1.toNatClampNeg) - (mt T p0.toNatClampNeg)), .long (((fX2_dayNow T p1) - (fX2_dayNow T p0)) * ((86400000000000 : Int64) / (fX2_nanosOf p2)))]) C (c_X2_nanosOf l G p2) F_X2_nanosOf rfl bw1354 bw1355 hE vpn hl.1 dX2_lineBetween_111 ⟨Nat.le_of_ble_eq_true rfl, Nat.le_of_ble_eq_true rfl⟩ rfl (Nat.le_of_ble_eq_true rfl) ⟨Nat.zero_le _, Nat.zero_le _⟩ ?_
          refine lv_ldiv hx hb dX2_lineBetween_114 (nz_nanosOf p2) ?_
          refine lv_ladd hx hb dX2_lineBetween_115 ?_
          exact re_l hx hb hr hk dX2_lineBetween_116 (el (Eq.trans (if_neg c_1) (Eq.trans (if_pos c_7) (Eq.trans (if_pos c_8) (if_neg c_9)))))
        · refine lv_lload hx hb dX2_lineBetween_90 (lv_at hl 1 rfl) ?_
          refine lv_ldc2 (v := (7 : Int64)) hx hb hown (hw _ bw1274) dX2_lineBetween_92 ?_
          refine lv_ldiv hx hb dX2_lineBetween_95 (by decide) ?_
          exact re_l hx hb hr hk dX2_lineBetween_96 (el (Eq.trans (if_neg c_1) (Eq.trans (if_pos c_7) (Eq.trans (if_pos c_8) (if_pos c_9)))))
      · refine lv_lload hx hb dX2_lineBetween_63 (lv_at hl 0 rfl) ?_
        refine lv_lconst (v := (0 : Int64)) hx hb dX2_lineBetween_65 (by decide) ?_
        refine W.lcmp hx hb dX2_lineBetween_66 ?_
        refine lv_if_le (tgt := 84) hx hb dX2_lineBetween_67 (by decide) (fun c_10 => ?_) (fun c_10 => ?_)
        · refine lv_iload_n hx hb dX2_lineBetween_84 rfl (lv_at hl 5 rfl) ?_
          refine lv_bipush (v := (8 : Int32)) hx hb dX2_lineBetween_85 (by decide) ?_
          refine lv_icmp_ne (tgt := 97) hx hb dX2_lineBetween_87 (by decide) (fun c_11 => ?_) (fun c_11 => ?_)
          · refine lv_lload hx hb dX2_lineBetween_97 (lv_at hl 1 rfl) ?_
            refine lv_ldc2 (v := (86400000000000 : Int64)) hx hb hown (hw _ bw1360) dX2_lineBetween_99 ?_
            refine lv_iload_n hx hb dX2_lineBetween_102 rfl (lv_at hl 5 rfl) ?_
            refine rcSl (as := [.int p2]) (rest := [.long (86400000000000 : Int64), .long ((fX2_dayNow T p1) - (fX2_dayNow T p0))]) C (c_X2_nanosOf l G p2) F_X2_nanosOf rfl bw1354 bw1355 hE vpn hl.1 dX2_lineBetween_103 ⟨Nat.le_of_ble_eq_true rfl, Nat.le_of_ble_eq_true rfl⟩ rfl (Nat.le_of_ble_eq_true rfl) ⟨Nat.zero_le _, Nat.zero_le _⟩ ?_
            refine lv_ldiv hx hb dX2_lineBetween_106 (nz_nanosOf p2) ?_
            refine lv_lmul hx hb dX2_lineBetween_107 ?_
            refine lv_lload hx hb dX2_lineBetween_108 (lv_at hl 0 rfl) ?_
            refine lv_iload_n hx hb dX2_lineBetween_110 rfl (lv_at hl 5 rfl) ?_
            refine rcSl (as := [.int p2]) (rest := [.long ((mt T p1.toNatClampNeg) - (mt T p0.toNatClampNeg)), .long (((fX2_dayNow T p1) - (fX2_dayNow T p0)) * ((86400000000000 : Int64) / (fX2_nanosOf p2)))]) C (c_X2_nanosOf l G p2) F_X2_nanosOf rfl bw1354 bw1355 hE vpn hl.1 dX2_lineBetween_111 ⟨Nat.le_of_ble_eq_true rfl, Nat.le_of_ble_eq_true rfl⟩ rfl (Nat.le_of_ble_eq_true rfl) ⟨Nat.zero_le _, Nat.zero_le _⟩ ?_
            refine lv_ldiv hx hb dX2_lineBetween_114 (nz_nanosOf p2) ?_
            refine lv_ladd hx hb dX2_lineBetween_115 ?_
            exact re_l hx hb hr hk dX2_lineBetween_116 (el (Eq.trans (if_neg c_1) (Eq.trans (if_pos c_7) (Eq.trans (if_neg c_8) (Eq.trans (if_pos c_10) (if_neg c_11))))))
          · refine lv_lload hx hb dX2_lineBetween_90 (lv_at hl 1 rfl) ?_
            refine lv_ldc2 (v := (7 : Int64)) hx hb hown (hw _ bw1274) dX2_lineBetween_92 ?_
            refine lv_ldiv hx hb dX2_lineBetween_95 (by decide) ?_
            exact re_l hx hb hr hk dX2_lineBetween_96 (el (Eq.trans (if_neg c_1) (Eq.trans (if_pos c_7) (Eq.trans (if_neg c_8) (Eq.trans (if_pos c_10) (if_pos c_11))))))
        · refine lv_lload hx hb dX2_lineBetween_70 (lv_at hl 1 rfl) ?_
          refine lv_lconst (v := (1 : Int64)) hx hb dX2_lineBetween_72 (by decide) ?_
          refine lv_ladd hx hb dX2_lineBetween_73 ?_
          refine lv_lstore (lv' := [(4, .long (((fX2_dayNow T p1) - (fX2_dayNow T p0)) + (1 : Int64))), (6, .long ((mt T p1.toNatClampNeg) - (mt T p0.toNatClampNeg))), (0, .ref (b 0)), (1, .int p0), (2, .int p1), (3, .int p2)]) hx hb dX2_lineBetween_74 hl (Nat.le_of_ble_eq_true rfl) rfl (fun ls hl => ?_)
          refine lv_lload hx hb dX2_lineBetween_76 (lv_at hl 1 rfl) ?_
          refine lv_ldc2 (v := (86400000000000 : Int64)) hx hb hown (hw _ bw1360) dX2_lineBetween_78 ?_
          refine lv_lsub hx hb dX2_lineBetween_81 ?_
          refine lv_lstore (lv' := [(6, .long (((mt T p1.toNatClampNeg) - (mt T p0.toNatClampNeg)) - (86400000000000 : Int64))), (4, .long (((fX2_dayNow T p1) - (fX2_dayNow T p0)) + (1 : Int64))), (0, .ref (b 0)), (1, .int p0), (2, .int p1), (3, .int p2)]) hx hb dX2_lineBetween_82 hl (Nat.le_of_ble_eq_true rfl) rfl (fun ls hl => ?_)
          refine lv_iload_n hx hb dX2_lineBetween_84 rfl (lv_at hl 5 rfl) ?_
          refine lv_bipush (v := (8 : Int32)) hx hb dX2_lineBetween_85 (by decide) ?_
          refine lv_icmp_ne (tgt := 97) hx hb dX2_lineBetween_87 (by decide) (fun c_12 => ?_) (fun c_12 => ?_)
          · refine lv_lload hx hb dX2_lineBetween_97 (lv_at hl 1 rfl) ?_
            refine lv_ldc2 (v := (86400000000000 : Int64)) hx hb hown (hw _ bw1360) dX2_lineBetween_99 ?_
            refine lv_iload_n hx hb dX2_lineBetween_102 rfl (lv_at hl 5 rfl) ?_
            refine rcSl (as := [.int p2]) (rest := [.long (86400000000000 : Int64), .long (((fX2_dayNow T p1) - (fX2_dayNow T p0)) + (1 : Int64))]) C (c_X2_nanosOf l G p2) F_X2_nanosOf rfl bw1354 bw1355 hE vpn hl.1 dX2_lineBetween_103 ⟨Nat.le_of_ble_eq_true rfl, Nat.le_of_ble_eq_true rfl⟩ rfl (Nat.le_of_ble_eq_true rfl) ⟨Nat.zero_le _, Nat.zero_le _⟩ ?_
            refine lv_ldiv hx hb dX2_lineBetween_106 (nz_nanosOf p2) ?_
            refine lv_lmul hx hb dX2_lineBetween_107 ?_
            refine lv_lload hx hb dX2_lineBetween_108 (lv_at hl 0 rfl) ?_
            refine lv_iload_n hx hb dX2_lineBetween_110 rfl (lv_at hl 5 rfl) ?_
            refine rcSl (as := [.int p2]) (rest := [.long (((mt T p1.toNatClampNeg) - (mt T p0.toNatClampNeg)) - (86400000000000 : Int64)), .long ((((fX2_dayNow T p1) - (fX2_dayNow T p0)) + (1 : Int64)) * ((86400000000000 : Int64) / (fX2_nanosOf p2)))]) C (c_X2_nanosOf l G p2) F_X2_nanosOf rfl bw1354 bw1355 hE vpn hl.1 dX2_lineBetween_111 ⟨Nat.le_of_ble_eq_true rfl, Nat.le_of_ble_eq_true rfl⟩ rfl (Nat.le_of_ble_eq_true rfl) ⟨Nat.zero_le _, Nat.zero_le _⟩ ?_
            refine lv_ldiv hx hb dX2_lineBetween_114 (nz_nanosOf p2) ?_
            refine lv_ladd hx hb dX2_lineBetween_115 ?_
            exact re_l hx hb hr hk dX2_lineBetween_116 (el (Eq.trans (if_neg c_1) (Eq.trans (if_pos c_7) (Eq.trans (if_neg c_8) (Eq.trans (if_neg c_10) (if_neg c_12))))))
          · refine lv_lload hx hb dX2_lineBetween_90 (lv_at hl 1 rfl) ?_
            refine lv_ldc2 (v := (7 : Int64)) hx hb hown (hw _ bw1274) dX2_lineBetween_92 ?_
            refine lv_ldiv hx hb dX2_lineBetween_95 (by decide) ?_
            exact re_l hx hb hr hk dX2_lineBetween_96 (el (Eq.trans (if_neg c_1) (Eq.trans (if_pos c_7) (Eq.trans (if_neg c_8) (Eq.trans (if_neg c_10) (if_pos c_12))))))
    · refine lv_lload hx hb dX2_lineBetween_42 (lv_at hl 1 rfl) ?_
      refine lv_lconst (v := (1 : Int64)) hx hb dX2_lineBetween_44 (by decide) ?_
      refine lv_lsub hx hb dX2_lineBetween_45 ?_
      refine lv_lstore (lv' := [(4, .long (((fX2_dayNow T p1) - (fX2_dayNow T p0)) - (1 : Int64))), (6, .long ((mt T p1.toNatClampNeg) - (mt T p0.toNatClampNeg))), (0, .ref (b 0)), (1, .int p0), (2, .int p1), (3, .int p2)]) hx hb dX2_lineBetween_46 hl (Nat.le_of_ble_eq_true rfl) rfl (fun ls hl => ?_)
      refine lv_lload hx hb dX2_lineBetween_48 (lv_at hl 1 rfl) ?_
      refine lv_ldc2 (v := (86400000000000 : Int64)) hx hb hown (hw _ bw1360) dX2_lineBetween_50 ?_
      refine lv_ladd hx hb dX2_lineBetween_53 ?_
      refine lv_lstore (lv' := [(6, .long (((mt T p1.toNatClampNeg) - (mt T p0.toNatClampNeg)) + (86400000000000 : Int64))), (4, .long (((fX2_dayNow T p1) - (fX2_dayNow T p0)) - (1 : Int64))), (0, .ref (b 0)), (1, .int p0), (2, .int p1), (3, .int p2)]) hx hb dX2_lineBetween_54 hl (Nat.le_of_ble_eq_true rfl) rfl (fun ls hl => ?_)
      refine lv_lload hx hb dX2_lineBetween_56 (lv_at hl 1 rfl) ?_
      refine lv_lconst (v := (0 : Int64)) hx hb dX2_lineBetween_58 (by decide) ?_
      refine W.lcmp hx hb dX2_lineBetween_59 ?_
      refine lv_if_ge (tgt := 84) hx hb dX2_lineBetween_60 (by decide) (fun c_13 => ?_) (fun c_13 => ?_)
      · refine lv_iload_n hx hb dX2_lineBetween_84 rfl (lv_at hl 5 rfl) ?_
        refine lv_bipush (v := (8 : Int32)) hx hb dX2_lineBetween_85 (by decide) ?_
        refine lv_icmp_ne (tgt := 97) hx hb dX2_lineBetween_87 (by decide) (fun c_14 => ?_) (fun c_14 => ?_)
        · refine lv_lload hx hb dX2_lineBetween_97 (lv_at hl 1 rfl) ?_
          refine lv_ldc2 (v := (86400000000000 : Int64)) hx hb hown (hw _ bw1360) dX2_lineBetween_99 ?_
          refine lv_iload_n hx hb dX2_lineBetween_102 rfl (lv_at hl 5 rfl) ?_
          refine rcSl (as := [.int p2]) (rest := [.long (86400000000000 : Int64), .long (((fX2_dayNow T p1) - (fX2_dayNow T p0)) - (1 : Int64))]) C (c_X2_nanosOf l G p2) F_X2_nanosOf rfl bw1354 bw1355 hE vpn hl.1 dX2_lineBetween_103 ⟨Nat.le_of_ble_eq_true rfl, Nat.le_of_ble_eq_true rfl⟩ rfl (Nat.le_of_ble_eq_true rfl) ⟨Nat.zero_le _, Nat.zero_le _⟩ ?_
          refine lv_ldiv hx hb dX2_lineBetween_106 (nz_nanosOf p2) ?_
          refine lv_lmul hx hb dX2_lineBetween_107 ?_
          refine lv_lload hx hb dX2_lineBetween_108 (lv_at hl 0 rfl) ?_
          refine lv_iload_n hx hb dX2_lineBetween_110 rfl (lv_at hl 5 rfl) ?_
          refine rcSl (as := [.int p2]) (rest := [.long (((mt T p1.toNatClampNeg) - (mt T p0.toNatClampNeg)) + (86400000000000 : Int64)), .long ((((fX2_dayNow T p1) - (fX2_dayNow T p0)) - (1 : Int64)) * ((86400000000000 : Int64) / (fX2_nanosOf p2)))]) C (c_X2_nanosOf l G p2) F_X2_nanosOf rfl bw1354 bw1355 hE vpn hl.1 dX2_lineBetween_111 ⟨Nat.le_of_ble_eq_true rfl, Nat.le_of_ble_eq_true rfl⟩ rfl (Nat.le_of_ble_eq_true rfl) ⟨Nat.zero_le _, Nat.zero_le _⟩ ?_
          refine lv_ldiv hx hb dX2_lineBetween_114 (nz_nanosOf p2) ?_
          refine lv_ladd hx hb dX2_lineBetween_115 ?_
          exact re_l hx hb hr hk dX2_lineBetween_116 (el (Eq.trans (if_neg c_1) (Eq.trans (if_neg c_7) (Eq.trans (if_pos c_13) (if_neg c_14)))))
        · refine lv_lload hx hb dX2_lineBetween_90 (lv_at hl 1 rfl) ?_
          refine lv_ldc2 (v := (7 : Int64)) hx hb hown (hw _ bw1274) dX2_lineBetween_92 ?_
          refine lv_ldiv hx hb dX2_lineBetween_95 (by decide) ?_
          exact re_l hx hb hr hk dX2_lineBetween_96 (el (Eq.trans (if_neg c_1) (Eq.trans (if_neg c_7) (Eq.trans (if_pos c_13) (if_pos c_14)))))
      · refine lv_lload hx hb dX2_lineBetween_63 (lv_at hl 0 rfl) ?_
        refine lv_lconst (v := (0 : Int64)) hx hb dX2_lineBetween_65 (by decide) ?_
        refine W.lcmp hx hb dX2_lineBetween_66 ?_
        refine lv_if_le (tgt := 84) hx hb dX2_lineBetween_67 (by decide) (fun c_15 => ?_) (fun c_15 => ?_)
        · refine lv_iload_n hx hb dX2_lineBetween_84 rfl (lv_at hl 5 rfl) ?_
          refine lv_bipush (v := (8 : Int32)) hx hb dX2_lineBetween_85 (by decide) ?_
          refine lv_icmp_ne (tgt := 97) hx hb dX2_lineBetween_87 (by decide) (fun c_16 => ?_) (fun c_16 => ?_)
          · refine lv_lload hx hb dX2_lineBetween_97 (lv_at hl 1 rfl) ?_
            refine lv_ldc2 (v := (86400000000000 : Int64)) hx hb hown (hw _ bw1360) dX2_lineBetween_99 ?_
            refine lv_iload_n hx hb dX2_lineBetween_102 rfl (lv_at hl 5 rfl) ?_
            refine rcSl (as := [.int p2]) (rest := [.long (86400000000000 : Int64), .long (((fX2_dayNow T p1) - (fX2_dayNow T p0)) - (1 : Int64))]) C (c_X2_nanosOf l G p2) F_X2_nanosOf rfl bw1354 bw1355 hE vpn hl.1 dX2_lineBetween_103 ⟨Nat.le_of_ble_eq_true rfl, Nat.le_of_ble_eq_true rfl⟩ rfl (Nat.le_of_ble_eq_true rfl) ⟨Nat.zero_le _, Nat.zero_le _⟩ ?_
            refine lv_ldiv hx hb dX2_lineBetween_106 (nz_nanosOf p2) ?_
            refine lv_lmul hx hb dX2_lineBetween_107 ?_
            refine lv_lload hx hb dX2_lineBetween_108 (lv_at hl 0 rfl) ?_
            refine lv_iload_n hx hb dX2_lineBetween_110 rfl (lv_at hl 5 rfl) ?_
            refine rcSl (as := [.int p2]) (rest := [.long (((mt T p1.toNatClampNeg) - (mt T p0.toNatClampNeg)) + (86400000000000 : Int64)), .long ((((fX2_dayNow T p1) - (fX2_dayNow T p0)) - (1 : Int64)) * ((86400000000000 : Int64) / (fX2_nanosOf p2)))]) C (c_X2_nanosOf l G p2) F_X2_nanosOf rfl bw1354 bw1355 hE vpn hl.1 dX2_lineBetween_111 ⟨Nat.le_of_ble_eq_true rfl, Nat.le_of_ble_eq_true rfl⟩ rfl (Nat.le_of_ble_eq_true rfl) ⟨Nat.zero_le _, Nat.zero_le _⟩ ?_
            refine lv_ldiv hx hb dX2_lineBetween_114 (nz_nanosOf p2) ?_
            refine lv_ladd hx hb dX2_lineBetween_115 ?_
            exact re_l hx hb hr hk dX2_lineBetween_116 (el (Eq.trans (if_neg c_1) (Eq.trans (if_neg c_7) (Eq.trans (if_neg c_13) (Eq.trans (if_pos c_15) (if_neg c_16))))))
          · refine lv_lload hx hb dX2_lineBetween_90 (lv_at hl 1 rfl) ?_
            refine lv_ldc2 (v := (7 : Int64)) hx hb hown (hw _ bw1274) dX2_lineBetween_92 ?_
            refine lv_ldiv hx hb dX2_lineBetween_95 (by decide) ?_
            exact re_l hx hb hr hk dX2_lineBetween_96 (el (Eq.trans (if_neg c_1) (Eq.trans (if_neg c_7) (Eq.trans (if_neg c_13) (Eq.trans (if_pos c_15) (if_pos c_16))))))
        · refine lv_lload hx hb dX2_lineBetween_70 (lv_at hl 1 rfl) ?_
          refine lv_lconst (v := (1 : Int64)) hx hb dX2_lineBetween_72 (by decide) ?_
          refine lv_ladd hx hb dX2_lineBetween_73 ?_
          refine lv_lstore (lv' := [(4, .long ((((fX2_dayNow T p1) - (fX2_dayNow T p0)) - (1 : Int64)) + (1 : Int64))), (6, .long (((mt T p1.toNatClampNeg) - (mt T p0.toNatClampNeg)) + (86400000000000 : Int64))), (0, .ref (b 0)), (1, .int p0), (2, .int p1), (3, .int p2)]) hx hb dX2_lineBetween_74 hl (Nat.le_of_ble_eq_true rfl) rfl (fun ls hl => ?_)
          refine lv_lload hx hb dX2_lineBetween_76 (lv_at hl 1 rfl) ?_
          refine lv_ldc2 (v := (86400000000000 : Int64)) hx hb hown (hw _ bw1360) dX2_lineBetween_78 ?_
          refine lv_lsub hx hb dX2_lineBetween_81 ?_
          refine lv_lstore (lv' := [(6, .long ((((mt T p1.toNatClampNeg) - (mt T p0.toNatClampNeg)) + (86400000000000 : Int64)) - (86400000000000 : Int64))), (4, .long ((((fX2_dayNow T p1) - (fX2_dayNow T p0)) - (1 : Int64)) + (1 : Int64))), (0, .ref (b 0)), (1, .int p0), (2, .int p1), (3, .int p2)]) hx hb dX2_lineBetween_82 hl (Nat.le_of_ble_eq_true rfl) rfl (fun ls hl => ?_)
          refine lv_iload_n hx hb dX2_lineBetween_84 rfl (lv_at hl 5 rfl) ?_
          refine lv_bipush (v := (8 : Int32)) hx hb dX2_lineBetween_85 (by decide) ?_
          refine lv_icmp_ne (tgt := 97) hx hb dX2_lineBetween_87 (by decide) (fun c_17 => ?_) (fun c_17 => ?_)
          · refine lv_lload hx hb dX2_lineBetween_97 (lv_at hl 1 rfl) ?_
            refine lv_ldc2 (v := (86400000000000 : Int64)) hx hb hown (hw _ bw1360) dX2_lineBetween_99 ?_
            refine lv_iload_n hx hb dX2_lineBetween_102 rfl (lv_at hl 5 rfl) ?_
            refine rcSl (as := [.int p2]) (rest := [.long (86400000000000 : Int64), .long ((((fX2_dayNow T p1) - (fX2_dayNow T p0)) - (1 : Int64)) + (1 : Int64))]) C (c_X2_nanosOf l G p2) F_X2_nanosOf rfl bw1354 bw1355 hE vpn hl.1 dX2_lineBetween_103 ⟨Nat.le_of_ble_eq_true rfl, Nat.le_of_ble_eq_true rfl⟩ rfl (Nat.le_of_ble_eq_true rfl) ⟨Nat.zero_le _, Nat.zero_le _⟩ ?_
            refine lv_ldiv hx hb dX2_lineBetween_106 (nz_nanosOf p2) ?_
            refine lv_lmul hx hb dX2_lineBetween_107 ?_
            refine lv_lload hx hb dX2_lineBetween_108 (lv_at hl 0 rfl) ?_
            refine lv_iload_n hx hb dX2_lineBetween_110 rfl (lv_at hl 5 rfl) ?_
            refine rcSl (as := [.int p2]) (rest := [.long ((((mt T p1.toNatClampNeg) - (mt T p0.toNatClampNeg)) + (86400000000000 : Int64)) - (86400000000000 : Int64)), .long (((((fX2_dayNow T p1) - (fX2_dayNow T p0)) - (1 : Int64)) + (1 : Int64)) * ((86400000000000 : Int64) / (fX2_nanosOf p2)))]) C (c_X2_nanosOf l G p2) F_X2_nanosOf rfl bw1354 bw1355 hE vpn hl.1 dX2_lineBetween_111 ⟨Nat.le_of_ble_eq_true rfl, Nat.le_of_ble_eq_true rfl⟩ rfl (Nat.le_of_ble_eq_true rfl) ⟨Nat.zero_le _, Nat.zero_le _⟩ ?_
            refine lv_ldiv hx hb dX2_lineBetween_114 (nz_nanosOf p2) ?_
            refine lv_ladd hx hb dX2_lineBetween_115 ?_
            exact re_l hx hb hr hk dX2_lineBetween_116 (el (Eq.trans (if_neg c_1) (Eq.trans (if_neg c_7) (Eq.trans (if_neg c_13) (Eq.trans (if_neg c_15) (if_neg c_17))))))
          · refine lv_lload hx hb dX2_lineBetween_90 (lv_at hl 1 rfl) ?_
            refine lv_ldc2 (v := (7 : Int64)) hx hb hown (hw _ bw1274) dX2_lineBetween_92 ?_
            refine lv_ldiv hx hb dX2_lineBetween_95 (by decide) ?_
            exact re_l hx hb hr hk dX2_lineBetween_96 (el (Eq.trans (if_neg c_1) (Eq.trans (if_neg c_7) (Eq.trans (if_neg c_13) (Eq.trans (if_neg c_15) (if_pos c_17))))))

set_option maxRecDepth 100000 in
set_option maxHeartbeats 4000000 in
theorem c_X2_monthsOn (l : Launch) (G : GT) (b : Nat → Nat) (T : SM) (p0 : Int32) (p1 : Int32) (h0 : vp_in p0 6) (h1 : vp_in p1 6) : RO l G yX2_monthsOn cX2_monthsOn 6 (some .long) 1 [.ref (b 0), .int p0, .int p1] (wM G b T) (some (.long (fX2_monthsOn T p0 p1))) := by
  refine RO.ofW (own := RX2) rfl (by decide +kernel) (Nat.le_of_ble_eq_true rfl) ?_
  intro p e s m below meth c C hr hk hE hP ls hl
  have hx := C.1
  have hb := C.2.1
  have hown := C.2.2.2.1
  have hw := C.2.2.2.2
  have hl : lv_has ls 6 [(0, .ref (b 0)), (1, .int p0), (2, .int p1)] := hl
  refine lv_ldc2 (v := (12 : Int64)) hx hb hown (hw _ bw1368) dX2_monthsOn_0 ?_
  refine lv_aload_n hx hb dX2_monthsOn_3 rfl (lv_at hl 0 rfl) ?_
  refine va_get (D := gD G) (cl := vwCl) (tys := gT G) (ci := 4) (v := .ref (b 1)) (C := RX2) (T := TX2) (N := 12) hx hb hw inB_X2 hown hE.K hP 0 rfl rfl 1 (by decide) (hw _ bw1164) (fun _ h9 => h9) rfl dX2_monthsOn_4 ?_
  refine lv_iload_n hx hb dX2_monthsOn_7 rfl (lv_at hl 2 rfl) ?_
  refine va_iald (tys := gT G) hx hb hE.K hP 1 0 rfl rfl h1 dX2_monthsOn_8 ?_
  refine lv_aload_n hx hb dX2_monthsOn_9 rfl (lv_at hl 0 rfl) ?_
  refine va_get (D := gD G) (cl := vwCl) (tys := gT G) (ci := 4) (v := .ref (b 1)) (C := RX2) (T := TX2) (N := 12) hx hb hw inB_X2 hown hE.K hP 0 rfl rfl 1 (by decide) (hw _ bw1164) (fun _ h9 => h9) rfl dX2_monthsOn_10 ?_
  refine lv_iload_n hx hb dX2_monthsOn_13 rfl (lv_at hl 1 rfl) ?_
  refine va_iald (tys := gT G) hx hb hE.K hP 1 0 rfl rfl h0 dX2_monthsOn_14 ?_
  refine lv_isub hx hb dX2_monthsOn_15 ?_
  refine lv_i2l (v := (((my T p1.toNatClampNeg) - (my T p0.toNatClampNeg)).toInt64)) hx hb dX2_monthsOn_16 (by first | rfl | decide) ?_
  refine lv_lmul hx hb dX2_monthsOn_17 ?_
  refine lv_aload_n hx hb dX2_monthsOn_18 rfl (lv_at hl 0 rfl) ?_
  refine va_get (D := gD G) (cl := vwCl) (tys := gT G) (ci := 4) (v := .ref (b 2)) (C := RX2) (T := TX2) (N := 12) hx hb hw inB_X2 hown hE.K hP 0 rfl rfl 2 (by decide) (hw _ bw1165) (fun _ h9 => h9) rfl dX2_monthsOn_19 ?_
  refine lv_iload_n hx hb dX2_monthsOn_22 rfl (lv_at hl 2 rfl) ?_
  refine va_iald (tys := gT G) hx hb hE.K hP 2 0 rfl rfl h1 dX2_monthsOn_23 ?_
  refine lv_i2l (v := ((mm T p1.toNatClampNeg).toInt64)) hx hb dX2_monthsOn_24 (by first | rfl | decide) ?_
  refine lv_ladd hx hb dX2_monthsOn_25 ?_
  refine lv_aload_n hx hb dX2_monthsOn_26 rfl (lv_at hl 0 rfl) ?_
  refine va_get (D := gD G) (cl := vwCl) (tys := gT G) (ci := 4) (v := .ref (b 2)) (C := RX2) (T := TX2) (N := 12) hx hb hw inB_X2 hown hE.K hP 0 rfl rfl 2 (by decide) (hw _ bw1165) (fun _ h9 => h9) rfl dX2_monthsOn_27 ?_
  refine lv_iload_n hx hb dX2_monthsOn_30 rfl (lv_at hl 1 rfl) ?_
  refine va_iald (tys := gT G) hx hb hE.K hP 2 0 rfl rfl h0 dX2_monthsOn_31 ?_
  refine lv_i2l (v := ((mm T p0.toNatClampNeg).toInt64)) hx hb dX2_monthsOn_32 (by first | rfl | decide) ?_
  refine lv_lsub hx hb dX2_monthsOn_33 ?_
  refine lv_lstore_n (lv' := [(3, .long ((((12 : Int64) * (((my T p1.toNatClampNeg) - (my T p0.toNatClampNeg)).toInt64)) + ((mm T p1.toNatClampNeg).toInt64)) - ((mm T p0.toNatClampNeg).toInt64))), (0, .ref (b 0)), (1, .int p0), (2, .int p1)]) hx hb dX2_monthsOn_34 rfl hl (Nat.le_of_ble_eq_true rfl) rfl (fun ls hl => ?_)
  refine lv_aload_n hx hb dX2_monthsOn_35 rfl (lv_at hl 1 rfl) ?_
  refine va_get (D := gD G) (cl := vwCl) (tys := gT G) (ci := 4) (v := .ref (b 3)) (C := RX2) (T := TX2) (N := 12) hx hb hw inB_X2 hown hE.K hP 0 rfl rfl 3 (by decide) (hw _ bw1166) (fun _ h9 => h9) rfl dX2_monthsOn_36 ?_
  refine lv_iload_n hx hb dX2_monthsOn_39 rfl (lv_at hl 3 rfl) ?_
  refine va_iald (tys := gT G) hx hb hE.K hP 3 0 rfl rfl h1 dX2_monthsOn_40 ?_
  refine lv_aload_n hx hb dX2_monthsOn_41 rfl (lv_at hl 1 rfl) ?_
  refine va_get (D := gD G) (cl := vwCl) (tys := gT G) (ci := 4) (v := .ref (b 3)) (C := RX2) (T := TX2) (N := 12) hx hb hw inB_X2 hown hE.K hP 0 rfl rfl 3 (by decide) (hw _ bw1166) (fun _ h9 => h9) rfl dX2_monthsOn_42 ?_
  refine lv_iload_n hx hb dX2_monthsOn_45 rfl (lv_at hl 2 rfl) ?_
  refine va_iald (tys := gT G) hx hb hE.K hP 3 0 rfl rfl h0 dX2_monthsOn_46 ?_
  refine lv_icmp_lt (tgt := 81) hx hb dX2_monthsOn_47 (by decide) (fun c_1 => ?_) (fun c_1 => ?_)
  · refine lv_iconst (v := (1 : Int32)) hx hb dX2_monthsOn_81 (by decide) ?_
    refine lv_goto (tgt := 86) hx hb dX2_monthsOn_82 (by decide) ?_
    refine lv_istore (lv' := [(5, .int (1 : Int32)), (3, .long ((((12 : Int64) * (((my T p1.toNatClampNeg) - (my T p0.toNatClampNeg)).toInt64)) + ((mm T p1.toNatClampNeg).toInt64)) - ((mm T p0.toNatClampNeg).toInt64))), (0, .ref (b 0)), (1, .int p0), (2, .int p1)]) hx hb dX2_monthsOn_86 hl (Nat.le_of_ble_eq_true rfl) rfl (fun ls hl => ?_)
    refine lv_iload hx hb dX2_monthsOn_88 (lv_at hl 0 rfl) ?_
    refine lv_if_eq (tgt := 99) hx hb dX2_monthsOn_90 (by decide) (fun c_x => absurd c_x (by decide)) (fun _ => ?_)
    refine lv_lload_n hx hb dX2_monthsOn_93 rfl (lv_at hl 1 rfl) ?_
    refine lv_lconst (v := (1 : Int64)) hx hb dX2_monthsOn_94 (by decide) ?_
    refine lv_lsub hx hb dX2_monthsOn_95 ?_
    refine lv_goto (tgt := 100) hx hb dX2_monthsOn_96 (by decide) ?_
    exact re_l hx hb hr hk dX2_monthsOn_100 (el (if_pos c_1))
  · refine lv_aload_n hx hb dX2_monthsOn_50 rfl (lv_at hl 1 rfl) ?_
    refine va_get (D := gD G) (cl := vwCl) (tys := gT G) (ci := 4) (v := .ref (b 3)) (C := RX2) (T := TX2) (N := 12) hx hb hw inB_X2 hown hE.K hP 0 rfl rfl 3 (by decide) (hw _ bw1166) (fun _ h9 => h9) rfl dX2_monthsOn_51 ?_
    refine lv_iload_n hx hb dX2_monthsOn_54 rfl (lv_at hl 3 rfl) ?_
    refine va_iald (tys := gT G) hx hb hE.K hP 3 0 rfl rfl h1 dX2_monthsOn_55 ?_
    refine lv_aload_n hx hb dX2_monthsOn_56 rfl (lv_at hl 1 rfl) ?_
    refine va_get (D := gD G) (cl := vwCl) (tys := gT G) (ci := 4) (v := .ref (b 3)) (C := RX2) (T := TX2) (N := 12) hx hb hw inB_X2 hown hE.K hP 0 rfl rfl 3 (by decide) (hw _ bw1166) (fun _ h9 => h9) rfl dX2_monthsOn_57 ?_
    refine lv_iload_n hx hb dX2_monthsOn_60 rfl (lv_at hl 2 rfl) ?_
    refine va_iald (tys := gT G) hx hb hE.K hP 3 0 rfl rfl h0 dX2_monthsOn_61 ?_
    refine lv_icmp_ne (tgt := 85) hx hb dX2_monthsOn_62 (by decide) (fun c_2 => ?_) (fun c_2 => ?_)
    · refine lv_iconst (v := (0 : Int32)) hx hb dX2_monthsOn_85 (by decide) ?_
      refine lv_istore (lv' := [(5, .int (0 : Int32)), (3, .long ((((12 : Int64) * (((my T p1.toNatClampNeg) - (my T p0.toNatClampNeg)).toInt64)) + ((mm T p1.toNatClampNeg).toInt64)) - ((mm T p0.toNatClampNeg).toInt64))), (0, .ref (b 0)), (1, .int p0), (2, .int p1)]) hx hb dX2_monthsOn_86 hl (Nat.le_of_ble_eq_true rfl) rfl (fun ls hl => ?_)
      refine lv_iload hx hb dX2_monthsOn_88 (lv_at hl 0 rfl) ?_
      refine lv_if_eq (tgt := 99) hx hb dX2_monthsOn_90 (by decide) (fun _ => ?_) (fun c_x => absurd (show (0 : Int32) = 0 from by decide) c_x)
      refine lv_lload_n hx hb dX2_monthsOn_99 rfl (lv_at hl 1 rfl) ?_
      exact re_l hx hb hr hk dX2_monthsOn_100 (el (Eq.trans (if_neg c_1) (if_neg c_2)))
    · refine lv_aload_n hx hb dX2_monthsOn_65 rfl (lv_at hl 1 rfl) ?_
      refine va_get (D := gD G) (cl := vwCl) (tys := gT G) (ci := 4) (v := .ref (b 4)) (C := RX2) (T := TX2) (N := 12) hx hb hw inB_X2 hown hE.K hP 0 rfl rfl 4 (by decide) (hw _ bw1167) (fun _ h9 => h9) rfl dX2_monthsOn_66 ?_
      refine lv_iload_n hx hb dX2_monthsOn_69 rfl (lv_at hl 3 rfl) ?_
      refine va_lald (tys := gT G) hx hb hE.K hP 4 1 rfl rfl h1 dX2_monthsOn_70 ?_
      refine lv_aload_n hx hb dX2_monthsOn_71 rfl (lv_at hl 1 rfl) ?_
      refine va_get (D := gD G) (cl := vwCl) (tys := gT G) (ci := 4) (v := .ref (b 4)) (C := RX2) (T := TX2) (N := 12) hx hb hw inB_X2 hown hE.K hP 0 rfl rfl 4 (by decide) (hw _ bw1167) (fun _ h9 => h9) rfl dX2_monthsOn_72 ?_
      refine lv_iload_n hx hb dX2_monthsOn_75 rfl (lv_at hl 2 rfl) ?_
      refine va_lald (tys := gT G) hx hb hE.K hP 4 1 rfl rfl h0 dX2_monthsOn_76 ?_
      refine W.lcmp hx hb dX2_monthsOn_77 ?_
      refine k_dia (b := 0 ≤ (lg_cmp (mt T p1.toNatClampNeg) (mt T p0.toNatClampNeg))) (x := (0 : Int32)) (y := (1 : Int32)) (Wg := fun z9 => W _ _ _ _ _ _ _ _ _ _ _ _ _ _ _ (F0 m 86 ls (.int z9 :: _))) ?_ (fun t9 f9 => lv_if_ge (tgt := 85) hx hb dX2_monthsOn_78 (by decide) (fun c_x => lv_iconst (v := (0 : Int32)) hx hb dX2_monthsOn_85 (by decide) (t9 c_x)) (fun c_x => lv_iconst (v := (1 : Int32)) hx hb dX2_monthsOn_81 (by decide) (lv_goto (tgt := 86) hx hb dX2_monthsOn_82 (by decide) (f9 c_x))))
      refine lv_istore (lv' := [(5, .int (if 0 ≤ (lg_cmp (mt T p1.toNatClampNeg) (mt T p0.toNatClampNeg)) then (0 : Int32) else (1 : Int32))), (3, .long ((((12 : Int64) * (((my T p1.toNatClampNeg) - (my T p0.toNatClampNeg)).toInt64)) + ((mm T p1.toNatClampNeg).toInt64)) - ((mm T p0.toNatClampNeg).toInt64))), (0, .ref (b 0)), (1, .int p0), (2, .int p1)]) hx hb dX2_monthsOn_86 hl (Nat.le_of_ble_eq_true rfl) rfl (fun ls hl => ?_)
      refine lv_iload hx hb dX2_monthsOn_88 (lv_at hl 0 rfl) ?_
      refine lv_if_eq (tgt := 99) hx hb dX2_monthsOn_90 (by decide) (fun c_3 => ?_) (fun c_3 => ?_)
      · refine lv_lload_n hx hb dX2_monthsOn_99 rfl (lv_at hl 1 rfl) ?_
        exact re_l hx hb hr hk dX2_monthsOn_100 (el (Eq.trans (if_neg c_1) (Eq.trans (if_pos c_2) (if_pos c_3))))
      · refine lv_lload_n hx hb dX2_monthsOn_93 rfl (lv_at hl 1 rfl) ?_
        refine lv_lconst (v := (1 : Int64)) hx hb dX2_monthsOn_94 (by decide) ?_
        refine lv_lsub hx hb dX2_monthsOn_95 ?_
        refine lv_goto (tgt := 100) hx hb dX2_monthsOn_96 (by decide) ?_
        exact re_l hx hb hr hk dX2_monthsOn_100 (el (Eq.trans (if_neg c_1) (Eq.trans (if_pos c_2) (if_neg c_3))))

set_option maxRecDepth 100000 in
set_option maxHeartbeats 4000000 in
theorem c_X2_monthsBack (l : Launch) (G : GT) (b : Nat → Nat) (T : SM) (p0 : Int32) (p1 : Int32) (h0 : vp_in p0 6) (h1 : vp_in p1 6) : RO l G yX2_monthsBack cX2_monthsBack 3 (some .long) 2 [.ref (b 0), .int p0, .int p1] (wM G b T) (some (.long (fX2_monthsBack T p0 p1))) := by
  refine RO.ofW (own := RX2) rfl (by decide +kernel) (Nat.le_of_ble_eq_true rfl) ?_
  intro p e s m below meth c C hr hk hE hP ls hl
  have hx := C.1
  have hb := C.2.1
  have hown := C.2.2.2.1
  have hw := C.2.2.2.2
  have hl : lv_has ls 3 [(0, .ref (b 0)), (1, .int p0), (2, .int p1)] := hl
  refine lv_aload_n hx hb dX2_monthsBack_0 rfl (lv_at hl 0 rfl) ?_
  refine lv_iload_n hx hb dX2_monthsBack_1 rfl (lv_at hl 2 rfl) ?_
  refine lv_iload_n hx hb dX2_monthsBack_2 rfl (lv_at hl 1 rfl) ?_
  refine rcVl (as := [.int p1, .int p0]) (rest := []) (cl := RX2) C (c_X2_monthsOn l G b T p1 p0 h1 h0) F_X2_monthsOn rfl bw1588 bw1590 bw51 hE hP (rv4 hE.K hP (q0 := 0) rfl) hl.1 dX2_monthsBack_3 ⟨Nat.le_of_ble_eq_true rfl, Nat.le_of_ble_eq_true rfl⟩ rfl (Nat.le_of_ble_eq_true rfl) ⟨Nat.zero_le _, Nat.zero_le _⟩ ?_
  exact re_l hx hb hr hk dX2_monthsBack_6 (el rfl)

