set_option maxRecDepth 100000 in
set_option maxHeartbeats 4000000 in
theorem c_X2_ofDate (l : Launch) (G : GT) (b : Nat → Nat) (T : SM) (p0 : Int32) (p1 : Int32) (h0 : vp_in p0 6) (hT : MO T) : RO l G yX2_ofDate cX2_ofDate 6 (some .long) 7 [.ref (b 0), .int p0, .int p1] (wM G b T) (some (.long (fX2_ofDate T p0 p1))) := by
  refine RO.ofW (own := RX2) rfl (by decide +kernel) (Nat.le_of_ble_eq_true rfl) ?_
  intro p e s m below meth c C hr hk hE hP ls hl
  have hx := C.1
  have hb := C.2.1
  have hown := C.2.2.2.1
  have hw := C.2.2.2.2
  have hl : lv_has ls 6 [(0, .ref (b 0)), (1, .int p0), (2, .int p1)] := hl
  refine lv_aload_n hx hb dX2_ofDate_0 rfl (lv_at hl 0 rfl) ?_
  refine va_get (D := gD G) (cl := vwCl) (tys := gT G) (ci := 4) (v := .ref (b 3)) (C := RX2) (T := TX2) (N := 12) hx hb hw inB_X2 hown hE.K hP 0 rfl rfl 3 (by decide) (hw _ bw1166) (fun _ h9 => h9) rfl dX2_ofDate_1 ?_
  refine lv_iload_n hx hb dX2_ofDate_4 rfl (lv_at hl 1 rfl) ?_
  refine va_iald (tys := gT G) hx hb hE.K hP 3 0 rfl rfl h0 dX2_ofDate_5 ?_
  refine lv_iconst (v := (1 : Int32)) hx hb dX2_ofDate_6 (by decide) ?_
  refine lv_isub hx hb dX2_ofDate_7 ?_
  refine lv_istore_n (lv' := [(3, .int ((md T p0.toNatClampNeg) - (1 : Int32))), (0, .ref (b 0)), (1, .int p0), (2, .int p1)]) hx hb dX2_ofDate_8 rfl hl (Nat.le_of_ble_eq_true rfl) rfl (fun ls hl => ?_)
  refine lv_aload_n hx hb dX2_ofDate_9 rfl (lv_at hl 1 rfl) ?_
  refine lv_iload_n hx hb dX2_ofDate_10 rfl (lv_at hl 2 rfl) ?_
  refine rcVi (as := [.int p0]) (rest := []) (cl := RX2) C (c_X2_inYearNow l G b T p0 h0 hT) F_X2_inYearNow rfl bw1464 bw1466 bw44 hE hP (va_recv hE.K hP (ci := 4) (q0 := 0) rfl rfl) hl.1 dX2_ofDate_11 ⟨Nat.le_of_ble_eq_true rfl, Nat.le_of_ble_eq_true rfl⟩ rfl (Nat.le_of_ble_eq_true rfl) ⟨Nat.zero_le _, Nat.zero_le _⟩ ?_
  refine lv_iconst (v := (1 : Int32)) hx hb dX2_ofDate_14 (by decide) ?_
  refine lv_isub hx hb dX2_ofDate_15 ?_
  refine lv_istore (lv' := [(4, .int ((fX2_inYearNow T p0) - (1 : Int32))), (3, .int ((md T p0.toNatClampNeg) - (1 : Int32))), (0, .ref (b 0)), (1, .int p0), (2, .int p1)]) hx hb dX2_ofDate_16 hl (Nat.le_of_ble_eq_true rfl) rfl (fun ls hl => ?_)
  refine lv_aload_n hx hb dX2_ofDate_18 rfl (lv_at hl 2 rfl) ?_
  refine va_get (D := gD G) (cl := vwCl) (tys := gT G) (ci := 4) (v := .ref (b 1)) (C := RX2) (T := TX2) (N := 12) hx hb hw inB_X2 hown hE.K hP 0 rfl rfl 1 (by decide) (hw _ bw1164) (fun _ h9 => h9) rfl dX2_ofDate_19 ?_
  refine lv_iload_n hx hb dX2_ofDate_22 rfl (lv_at hl 3 rfl) ?_
  refine va_iald (tys := gT G) hx hb hE.K hP 1 0 rfl rfl h0 dX2_ofDate_23 ?_
  refine lv_istore (lv' := [(5, .int (my T p0.toNatClampNeg)), (4, .int ((fX2_inYearNow T p0) - (1 : Int32))), (3, .int ((md T p0.toNatClampNeg) - (1 : Int32))), (0, .ref (b 0)), (1, .int p0), (2, .int p1)]) hx hb dX2_ofDate_24 hl (Nat.le_of_ble_eq_true rfl) rfl (fun ls hl => ?_)
  refine lv_iload_n hx hb dX2_ofDate_26 rfl (lv_at hl 5 rfl) ?_
  by_cases c_1 : p1 = (15 : Int32)
  · refine lv_tableIn (tgt := 88) (off := 61) hx hb dX2_ofDate_27 (by rw [c_1]; decide) (by rw [c_1]; decide) (by rw [c_1]; decide) (by decide) ?_
    refine lv_aload_n hx hb dX2_ofDate_88 rfl (lv_at hl 3 rfl) ?_
    refine lv_iload_n hx hb dX2_ofDate_89 rfl (lv_at hl 4 rfl) ?_
    refine rcVi (as := [.int p0]) (rest := []) (cl := RX2) C (c_X2_weekDayNow l G b T p0 h0 hT) F_X2_weekDayNow rfl bw1243 bw1245 bw37 hE hP (va_recv hE.K hP (ci := 4) (q0 := 0) rfl rfl) hl.1 dX2_ofDate_90 ⟨Nat.le_of_ble_eq_true rfl, Nat.le_of_ble_eq_true rfl⟩ rfl (Nat.le_of_ble_eq_true rfl) ⟨Nat.zero_le _, Nat.zero_le _⟩ ?_
    refine lv_i2l (v := ((fX2_weekDayNow T p0).toInt64)) hx hb dX2_ofDate_93 (by first | rfl | decide) ?_
    exact re_l hx hb hr hk dX2_ofDate_94 (el (if_pos c_1))
  by_cases c_2 : p1 = (16 : Int32)
  · refine lv_tableIn (tgt := 95) (off := 68) hx hb dX2_ofDate_27 (by rw [c_2]; decide) (by rw [c_2]; decide) (by rw [c_2]; decide) (by decide) ?_
    refine lv_iload_n hx hb dX2_ofDate_95 rfl (lv_at hl 2 rfl) ?_
    refine lv_bipush (v := (7 : Int32)) hx hb dX2_ofDate_96 (by decide) ?_
    refine lv_irem hx hb dX2_ofDate_98 (by decide) ?_
    refine lv_iconst (v := (1 : Int32)) hx hb dX2_ofDate_99 (by decide) ?_
    refine lv_iadd hx hb dX2_ofDate_100 ?_
    refine lv_i2l (v := (((((md T p0.toNatClampNeg) - (1 : Int32)) - ((md T p0.toNatClampNeg) - (1 : Int32)) / (7 : Int32) * (7 : Int32)) + (1 : Int32)).toInt64)) hx hb dX2_ofDate_101 (by first | rfl | decide) ?_
    exact re_l hx hb hr hk dX2_ofDate_102 (el (Eq.trans (if_neg c_1) (if_pos c_2)))
  by_cases c_3 : p1 = (17 : Int32)
  · refine lv_tableIn (tgt := 103) (off := 76) hx hb dX2_ofDate_27 (by rw [c_3]; decide) (by rw [c_3]; decide) (by rw [c_3]; decide) (by decide) ?_
    refine lv_iload hx hb dX2_ofDate_103 (lv_at hl 1 rfl) ?_
    refine lv_bipush (v := (7 : Int32)) hx hb dX2_ofDate_105 (by decide) ?_
    refine lv_irem hx hb dX2_ofDate_107 (by decide) ?_
    refine lv_iconst (v := (1 : Int32)) hx hb dX2_ofDate_108 (by decide) ?_
    refine lv_iadd hx hb dX2_ofDate_109 ?_
    refine lv_i2l (v := (((((fX2_inYearNow T p0) - (1 : Int32)) - ((fX2_inYearNow T p0) - (1 : Int32)) / (7 : Int32) * (7 : Int32)) + (1 : Int32)).toInt64)) hx hb dX2_ofDate_110 (by first | rfl | decide) ?_
    exact re_l hx hb hr hk dX2_ofDate_111 (el (Eq.trans (if_neg c_1) (Eq.trans (if_neg c_2) (if_pos c_3))))
  by_cases c_4 : p1 = (18 : Int32)
  · refine lv_tableIn (tgt := 112) (off := 85) hx hb dX2_ofDate_27 (by rw [c_4]; decide) (by rw [c_4]; decide) (by rw [c_4]; decide) (by decide) ?_
    refine lv_iload_n hx hb dX2_ofDate_112 rfl (lv_at hl 2 rfl) ?_
    refine lv_iconst (v := (1 : Int32)) hx hb dX2_ofDate_113 (by decide) ?_
    refine lv_iadd hx hb dX2_ofDate_114 ?_
    refine lv_i2l (v := ((((md T p0.toNatClampNeg) - (1 : Int32)) + (1 : Int32)).toInt64)) hx hb dX2_ofDate_115 (by first | rfl | decide) ?_
    exact re_l hx hb hr hk dX2_ofDate_116 (el (Eq.trans (if_neg c_1) (Eq.trans (if_neg c_2) (Eq.trans (if_neg c_3) (if_pos c_4)))))
  by_cases c_5 : p1 = (19 : Int32)
  · refine lv_tableIn (tgt := 117) (off := 90) hx hb dX2_ofDate_27 (by rw [c_5]; decide) (by rw [c_5]; decide) (by rw [c_5]; decide) (by decide) ?_
    refine lv_iload hx hb dX2_ofDate_117 (lv_at hl 1 rfl) ?_
    refine lv_iconst (v := (1 : Int32)) hx hb dX2_ofDate_119 (by decide) ?_
    refine lv_iadd hx hb dX2_ofDate_120 ?_
    refine lv_i2l (v := ((((fX2_inYearNow T p0) - (1 : Int32)) + (1 : Int32)).toInt64)) hx hb dX2_ofDate_121 (by first | rfl | decide) ?_
    exact re_l hx hb hr hk dX2_ofDate_122 (el (Eq.trans (if_neg c_1) (Eq.trans (if_neg c_2) (Eq.trans (if_neg c_3) (Eq.trans (if_neg c_4) (if_pos c_5))))))
  by_cases c_6 : p1 = (20 : Int32)
  · refine lv_tableIn (tgt := 123) (off := 96) hx hb dX2_ofDate_27 (by rw [c_6]; decide) (by rw [c_6]; decide) (by rw [c_6]; decide) (by decide) ?_
    refine lv_aload_n hx hb dX2_ofDate_123 rfl (lv_at hl 3 rfl) ?_
    refine lv_iload_n hx hb dX2_ofDate_124 rfl (lv_at hl 4 rfl) ?_
    refine rcVl (as := [.int p0]) (rest := []) (cl := RX2) C (c_X2_dayNow l G b T p0 h0 hT) F_X2_dayNow rfl bw1247 bw1249 bw38 hE hP (va_recv hE.K hP (ci := 4) (q0 := 0) rfl rfl) hl.1 dX2_ofDate_125 ⟨Nat.le_of_ble_eq_true rfl, Nat.le_of_ble_eq_true rfl⟩ rfl (Nat.le_of_ble_eq_true rfl) ⟨Nat.zero_le _, Nat.zero_le _⟩ ?_
    exact re_l hx hb hr hk dX2_ofDate_128 (el (Eq.trans (if_neg c_1) (Eq.trans (if_neg c_2) (Eq.trans (if_neg c_3) (Eq.trans (if_neg c_4) (Eq.trans (if_neg c_5) (if_pos c_6)))))))
  by_cases c_7 : p1 = (21 : Int32)
  · refine lv_tableIn (tgt := 129) (off := 102) hx hb dX2_ofDate_27 (by rw [c_7]; decide) (by rw [c_7]; decide) (by rw [c_7]; decide) (by decide) ?_
    refine lv_iload_n hx hb dX2_ofDate_129 rfl (lv_at hl 2 rfl) ?_
    refine lv_bipush (v := (7 : Int32)) hx hb dX2_ofDate_130 (by decide) ?_
    refine lv_idiv hx hb dX2_ofDate_132 (by decide) ?_
    refine lv_iconst (v := (1 : Int32)) hx hb dX2_ofDate_133 (by decide) ?_
    refine lv_iadd hx hb dX2_ofDate_134 ?_
    refine lv_i2l (v := (((((md T p0.toNatClampNeg) - (1 : Int32)) / (7 : Int32)) + (1 : Int32)).toInt64)) hx hb dX2_ofDate_135 (by first | rfl | decide) ?_
    exact re_l hx hb hr hk dX2_ofDate_136 (el (Eq.trans (if_neg c_1) (Eq.trans (if_neg c_2) (Eq.trans (if_neg c_3) (Eq.trans (if_neg c_4) (Eq.trans (if_neg c_5) (Eq.trans (if_neg c_6) (if_pos c_7))))))))
  by_cases c_8 : p1 = (22 : Int32)
  · refine lv_tableIn (tgt := 137) (off := 110) hx hb dX2_ofDate_27 (by rw [c_8]; decide) (by rw [c_8]; decide) (by rw [c_8]; decide) (by decide) ?_
    refine lv_iload hx hb dX2_ofDate_137 (lv_at hl 1 rfl) ?_
    refine lv_bipush (v := (7 : Int32)) hx hb dX2_ofDate_139 (by decide) ?_
    refine lv_idiv hx hb dX2_ofDate_141 (by decide) ?_
    refine lv_iconst (v := (1 : Int32)) hx hb dX2_ofDate_142 (by decide) ?_
    refine lv_iadd hx hb dX2_ofDate_143 ?_
    refine lv_i2l (v := (((((fX2_inYearNow T p0) - (1 : Int32)) / (7 : Int32)) + (1 : Int32)).toInt64)) hx hb dX2_ofDate_144 (by first | rfl | decide) ?_
    exact re_l hx hb hr hk dX2_ofDate_145 (el (Eq.trans (if_neg c_1) (Eq.trans (if_neg c_2) (Eq.trans (if_neg c_3) (Eq.trans (if_neg c_4) (Eq.trans (if_neg c_5) (Eq.trans (if_neg c_6) (Eq.trans (if_neg c_7) (if_pos c_8)))))))))
  by_cases c_9 : p1 = (23 : Int32)
  · refine lv_tableIn (tgt := 146) (off := 119) hx hb dX2_ofDate_27 (by rw [c_9]; decide) (by rw [c_9]; decide) (by rw [c_9]; decide) (by decide) ?_
    refine lv_aload_n hx hb dX2_ofDate_146 rfl (lv_at hl 3 rfl) ?_
    refine va_get (D := gD G) (cl := vwCl) (tys := gT G) (ci := 4) (v := .ref (b 2)) (C := RX2) (T := TX2) (N := 12) hx hb hw inB_X2 hown hE.K hP 0 rfl rfl 2 (by decide) (hw _ bw1165) (fun _ h9 => h9) rfl dX2_ofDate_147 ?_
    refine lv_iload_n hx hb dX2_ofDate_150 rfl (lv_at hl 4 rfl) ?_
    refine va_iald (tys := gT G) hx hb hE.K hP 2 0 rfl rfl h0 dX2_ofDate_151 ?_
    refine lv_i2l (v := ((mm T p0.toNatClampNeg).toInt64)) hx hb dX2_ofDate_152 (by first | rfl | decide) ?_
    exact re_l hx hb hr hk dX2_ofDate_153 (el (Eq.trans (if_neg c_1) (Eq.trans (if_neg c_2) (Eq.trans (if_neg c_3) (Eq.trans (if_neg c_4) (Eq.trans (if_neg c_5) (Eq.trans (if_neg c_6) (Eq.trans (if_neg c_7) (Eq.trans (if_neg c_8) (if_pos c_9))))))))))
  by_cases c_10 : p1 = (24 : Int32)
  · refine lv_tableIn (tgt := 154) (off := 127) hx hb dX2_ofDate_27 (by rw [c_10]; decide) (by rw [c_10]; decide) (by rw [c_10]; decide) (by decide) ?_
    refine lv_ldc2 (v := (12 : Int64)) hx hb hown (hw _ bw1368) dX2_ofDate_154 ?_
    refine lv_iload hx hb dX2_ofDate_157 (lv_at hl 0 rfl) ?_
    refine lv_i2l (v := ((my T p0.toNatClampNeg).toInt64)) hx hb dX2_ofDate_159 (by first | rfl | decide) ?_
    refine lv_lmul hx hb dX2_ofDate_160 ?_
    refine lv_aload_n hx hb dX2_ofDate_161 rfl (lv_at hl 3 rfl) ?_
    refine va_get (D := gD G) (cl := vwCl) (tys := gT G) (ci := 4) (v := .ref (b 2)) (C := RX2) (T := TX2) (N := 12) hx hb hw inB_X2 hown hE.K hP 0 rfl rfl 2 (by decide) (hw _ bw1165) (fun _ h9 => h9) rfl dX2_ofDate_162 ?_
    refine lv_iload_n hx hb dX2_ofDate_165 rfl (lv_at hl 4 rfl) ?_
    refine va_iald (tys := gT G) hx hb hE.K hP 2 0 rfl rfl h0 dX2_ofDate_166 ?_
    refine lv_i2l (v := ((mm T p0.toNatClampNeg).toInt64)) hx hb dX2_ofDate_167 (by first | rfl | decide) ?_
    refine lv_ladd hx hb dX2_ofDate_168 ?_
    refine lv_lconst (v := (1 : Int64)) hx hb dX2_ofDate_169 (by decide) ?_
    refine lv_lsub hx hb dX2_ofDate_170 ?_
    exact re_l hx hb hr hk dX2_ofDate_171 (el (Eq.trans (if_neg c_1) (Eq.trans (if_neg c_2) (Eq.trans (if_neg c_3) (Eq.trans (if_neg c_4) (Eq.trans (if_neg c_5) (Eq.trans (if_neg c_6) (Eq.trans (if_neg c_7) (Eq.trans (if_neg c_8) (Eq.trans (if_neg c_9) (if_pos c_10)))))))))))
  by_cases c_11 : p1 = (25 : Int32)
  · refine lv_tableIn (tgt := 172) (off := 145) hx hb dX2_ofDate_27 (by rw [c_11]; decide) (by rw [c_11]; decide) (by rw [c_11]; decide) (by decide) ?_
    refine lv_iload hx hb dX2_ofDate_172 (lv_at hl 0 rfl) ?_
    refine lv_if_le (tgt := 183) hx hb dX2_ofDate_174 (by decide) (fun c_12 => ?_) (fun c_12 => ?_)
    · refine lv_iconst (v := (1 : Int32)) hx hb dX2_ofDate_183 (by decide) ?_
      refine lv_iload hx hb dX2_ofDate_184 (lv_at hl 0 rfl) ?_
      refine lv_isub hx hb dX2_ofDate_186 ?_
      refine lv_i2l (v := (((1 : Int32) - (my T p0.toNatClampNeg)).toInt64)) hx hb dX2_ofDate_187 (by first | rfl | decide) ?_
      exact re_l hx hb hr hk dX2_ofDate_188 (el (Eq.trans (if_neg c_1) (Eq.trans (if_neg c_2) (Eq.trans (if_neg c_3) (Eq.trans (if_neg c_4) (Eq.trans (if_neg c_5) (Eq.trans (if_neg c_6) (Eq.trans (if_neg c_7) (Eq.trans (if_neg c_8) (Eq.trans (if_neg c_9) (Eq.trans (if_neg c_10) (Eq.trans (if_pos c_11) (if_pos c_12)))))))))))))
    · refine lv_iload hx hb dX2_ofDate_177 (lv_at hl 0 rfl) ?_
      refine lv_i2l (v := ((my T p0.toNatClampNeg).toInt64)) hx hb dX2_ofDate_179 (by first | rfl | decide) ?_
      refine lv_goto (tgt := 188) hx hb dX2_ofDate_180 (by decide) ?_
      exact re_l hx hb hr hk dX2_ofDate_188 (el (Eq.trans (if_neg c_1) (Eq.trans (if_neg c_2) (Eq.trans (if_neg c_3) (Eq.trans (if_neg c_4) (Eq.trans (if_neg c_5) (Eq.trans (if_neg c_6) (Eq.trans (if_neg c_7) (Eq.trans (if_neg c_8) (Eq.trans (if_neg c_9) (Eq.trans (if_neg c_10) (Eq.trans (if_pos c_11) (if_neg c_12)))))))))))))
  by_cases c_13 : p1 = (26 : Int32)
  · refine lv_tableIn (tgt := 189) (off := 162) hx hb dX2_ofDate_27 (by rw [c_13]; decide) (by rw [c_13]; decide) (by rw [c_13]; decide) (by decide) ?_
    refine lv_iload hx hb dX2_ofDate_189 (lv_at hl 0 rfl) ?_
    refine lv_i2l (v := ((my T p0.toNatClampNeg).toInt64)) hx hb dX2_ofDate_191 (by first | rfl | decide) ?_
    exact re_l hx hb hr hk dX2_ofDate_192 (el (Eq.trans (if_neg c_1) (Eq.trans (if_neg c_2) (Eq.trans (if_neg c_3) (Eq.trans (if_neg c_4) (Eq.trans (if_neg c_5) (Eq.trans (if_neg c_6) (Eq.trans (if_neg c_7) (Eq.trans (if_neg c_8) (Eq.trans (if_neg c_9) (Eq.trans (if_neg c_10) (Eq.trans (if_neg c_11) (if_pos c_13)))))))))))))
  have nc_1 := lv_neT c_1 (a := 15) (by decide)
  have nc_2 := lv_neT c_2 (a := 16) (by decide)
  have nc_3 := lv_neT c_3 (a := 17) (by decide)
  have nc_4 := lv_neT c_4 (a := 18) (by decide)
  have nc_5 := lv_neT c_5 (a := 19) (by decide)
  have nc_6 := lv_neT c_6 (a := 20) (by decide)
  have nc_7 := lv_neT c_7 (a := 21) (by decide)
  have nc_8 := lv_neT c_8 (a := 22) (by decide)
  have nc_9 := lv_neT c_9 (a := 23) (by decide)
  have nc_10 := lv_neT c_10 (a := 24) (by decide)
  have nc_11 := lv_neT c_11 (a := 25) (by decide)
  have nc_13 := lv_neT c_13 (a := 26) (by decide)
  refine lv_tableOut (tgt := 193) hx hb dX2_ofDate_27 (by omega) (by decide) ?_
  refine lv_iload hx hb dX2_ofDate_193 (lv_at hl 0 rfl) ?_
  refine lv_if_le (tgt := 202) hx hb dX2_ofDate_195 (by decide) (fun c_14 => ?_) (fun c_14 => ?_)
  · refine lv_lconst (v := (0 : Int64)) hx hb dX2_ofDate_202 (by decide) ?_
    exact re_l hx hb hr hk dX2_ofDate_203 (el (Eq.trans (if_neg c_1) (Eq.trans (if_neg c_2) (Eq.trans (if_neg c_3) (Eq.trans (if_neg c_4) (Eq.trans (if_neg c_5) (Eq.trans (if_neg c_6) (Eq.trans (if_neg c_7) (Eq.trans (if_neg c_8) (Eq.trans (if_neg c_9) (Eq.trans (if_neg c_10) (Eq.trans (if_neg c_11) (Eq.trans (if_neg c_13) (if_pos c_14))))))))))))))
  · refine lv_lconst (v := (1 : Int64)) hx hb dX2_ofDate_198 (by decide) ?_
    refine lv_goto (tgt := 203) hx hb dX2_ofDate_199 (by decide) ?_
    exact re_l hx hb hr hk dX2_ofDate_203 (el (Eq.trans (if_neg c_1) (Eq.trans (if_neg c_2) (Eq.trans (if_neg c_3) (Eq.trans (if_neg c_4) (Eq.trans (if_neg c_5) (Eq.trans (if_neg c_6) (Eq.trans (if_neg c_7) (Eq.trans (if_neg c_8) (Eq.trans (if_neg c_9) (Eq.trans (if_neg c_10) (Eq.trans (if_neg c_11) (Eq.trans (if_neg c_13) (if_neg c_14))))))))))))))

