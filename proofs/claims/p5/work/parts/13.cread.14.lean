set_option maxRecDepth 100000 in
set_option maxHeartbeats 4000000 in
theorem c_X2_ofTime (l : Launch) (G : GT) (b : Nat → Nat) (T : SM) (p0 : Int32) (p1 : Int32) (h0 : vp_in p0 6) : RO l G yX2_ofTime cX2_ofTime 4 (some .long) 2 [.ref (b 0), .int p0, .int p1] (wM G b T) (some (.long (fX2_ofTime T p0 p1))) := by
  refine RO.ofW (own := RX2) rfl (by decide +kernel) (Nat.le_of_ble_eq_true rfl) ?_
  intro p e s m below meth c C hr hk hE hP ls hl
  have hx := C.1
  have hb := C.2.1
  have hown := C.2.2.2.1
  have hw := C.2.2.2.2
  have hl : lv_has ls 4 [(0, .ref (b 0)), (1, .int p0), (2, .int p1)] := hl
  refine lv_aload_n hx hb dX2_ofTime_0 rfl (lv_at hl 0 rfl) ?_
  refine lv_iload_n hx hb dX2_ofTime_1 rfl (lv_at hl 1 rfl) ?_
  refine lv_iconst (v := (5 : Int32)) hx hb dX2_ofTime_2 (by decide) ?_
  refine rcSl (as := [.int (5 : Int32)]) (rest := [.int p0, .ref (b 0)]) C (c_X2_nanosOf l G (5 : Int32)) F_X2_nanosOf rfl bw1354 bw1355 hE vpn hl.1 dX2_ofTime_3 ⟨Nat.le_of_ble_eq_true rfl, Nat.le_of_ble_eq_true rfl⟩ rfl (Nat.le_of_ble_eq_true rfl) ⟨Nat.zero_le _, Nat.zero_le _⟩ ?_
  refine lv_ldc2 (v := (24 : Int64)) hx hb hown (hw _ bw1332) dX2_ofTime_6 ?_
  refine rcVi (as := [.int p0, .long (fX2_nanosOf (5 : Int32)), .long (24 : Int64)]) (rest := []) (cl := RX2) C (c_X2_part l G b T p0 (fX2_nanosOf (5 : Int32)) (24 : Int64) h0 (nz_nanosOf (5 : Int32)) (by decide)) F_X2_part rfl bw1476 bw1478 bw45 hE hP (va_recv hE.K hP (ci := 4) (q0 := 0) rfl rfl) hl.1 dX2_ofTime_9 ⟨Nat.le_of_ble_eq_true rfl, Nat.le_of_ble_eq_true rfl⟩ rfl (Nat.le_of_ble_eq_true rfl) ⟨Nat.zero_le _, Nat.zero_le _⟩ ?_
  refine lv_istore_n (lv' := [(3, .int (fX2_part T p0 (fX2_nanosOf (5 : Int32)) (24 : Int64))), (0, .ref (b 0)), (1, .int p0), (2, .int p1)]) hx hb dX2_ofTime_12 rfl hl (Nat.le_of_ble_eq_true rfl) rfl (fun ls hl => ?_)
  refine lv_iload_n hx hb dX2_ofTime_13 rfl (lv_at hl 3 rfl) ?_
  by_cases c_1 : p1 = (0 : Int32)
  · refine lv_tableIn (tgt := 84) (off := 70) hx hb dX2_ofTime_14 (by rw [c_1]; decide) (by rw [c_1]; decide) (by rw [c_1]; decide) (by decide) ?_
    refine lv_aload_n hx hb dX2_ofTime_84 rfl (lv_at hl 1 rfl) ?_
    refine va_get (D := gD G) (cl := vwCl) (tys := gT G) (ci := 4) (v := .ref (b 4)) (C := RX2) (T := TX2) (N := 12) hx hb hw inB_X2 hown hE.K hP 0 rfl rfl 4 (by decide) (hw _ bw1167) (fun _ h9 => h9) rfl dX2_ofTime_85 ?_
    refine lv_iload_n hx hb dX2_ofTime_88 rfl (lv_at hl 2 rfl) ?_
    refine va_lald (tys := gT G) hx hb hE.K hP 4 1 rfl rfl h0 dX2_ofTime_89 ?_
    refine lv_ldc2 (v := (1000000000 : Int64)) hx hb hown (hw _ bw1238) dX2_ofTime_90 ?_
    refine lv_lrem hx hb dX2_ofTime_93 (by decide) ?_
    exact re_l hx hb hr hk dX2_ofTime_94 (el (if_pos c_1))
  by_cases c_2 : p1 = (1 : Int32)
  · refine lv_tableIn (tgt := 95) (off := 81) hx hb dX2_ofTime_14 (by rw [c_2]; decide) (by rw [c_2]; decide) (by rw [c_2]; decide) (by decide) ?_
    refine lv_aload_n hx hb dX2_ofTime_95 rfl (lv_at hl 1 rfl) ?_
    refine va_get (D := gD G) (cl := vwCl) (tys := gT G) (ci := 4) (v := .ref (b 4)) (C := RX2) (T := TX2) (N := 12) hx hb hw inB_X2 hown hE.K hP 0 rfl rfl 4 (by decide) (hw _ bw1167) (fun _ h9 => h9) rfl dX2_ofTime_96 ?_
    refine lv_iload_n hx hb dX2_ofTime_99 rfl (lv_at hl 2 rfl) ?_
    refine va_lald (tys := gT G) hx hb hE.K hP 4 1 rfl rfl h0 dX2_ofTime_100 ?_
    exact re_l hx hb hr hk dX2_ofTime_101 (el (Eq.trans (if_neg c_1) (if_pos c_2)))
  by_cases c_3 : p1 = (2 : Int32)
  · refine lv_tableIn (tgt := 102) (off := 88) hx hb dX2_ofTime_14 (by rw [c_3]; decide) (by rw [c_3]; decide) (by rw [c_3]; decide) (by decide) ?_
    refine lv_aload_n hx hb dX2_ofTime_102 rfl (lv_at hl 1 rfl) ?_
    refine va_get (D := gD G) (cl := vwCl) (tys := gT G) (ci := 4) (v := .ref (b 4)) (C := RX2) (T := TX2) (N := 12) hx hb hw inB_X2 hown hE.K hP 0 rfl rfl 4 (by decide) (hw _ bw1167) (fun _ h9 => h9) rfl dX2_ofTime_103 ?_
    refine lv_iload_n hx hb dX2_ofTime_106 rfl (lv_at hl 2 rfl) ?_
    refine va_lald (tys := gT G) hx hb hE.K hP 4 1 rfl rfl h0 dX2_ofTime_107 ?_
    refine lv_ldc2 (v := (1000000000 : Int64)) hx hb hown (hw _ bw1238) dX2_ofTime_108 ?_
    refine lv_lrem hx hb dX2_ofTime_111 (by decide) ?_
    refine lv_ldc2 (v := (1000 : Int64)) hx hb hown (hw _ bw1357) dX2_ofTime_112 ?_
    refine lv_ldiv hx hb dX2_ofTime_115 (by decide) ?_
    exact re_l hx hb hr hk dX2_ofTime_116 (el (Eq.trans (if_neg c_1) (Eq.trans (if_neg c_2) (if_pos c_3))))
  by_cases c_4 : p1 = (3 : Int32)
  · refine lv_tableIn (tgt := 117) (off := 103) hx hb dX2_ofTime_14 (by rw [c_4]; decide) (by rw [c_4]; decide) (by rw [c_4]; decide) (by decide) ?_
    refine lv_aload_n hx hb dX2_ofTime_117 rfl (lv_at hl 1 rfl) ?_
    refine va_get (D := gD G) (cl := vwCl) (tys := gT G) (ci := 4) (v := .ref (b 4)) (C := RX2) (T := TX2) (N := 12) hx hb hw inB_X2 hown hE.K hP 0 rfl rfl 4 (by decide) (hw _ bw1167) (fun _ h9 => h9) rfl dX2_ofTime_118 ?_
    refine lv_iload_n hx hb dX2_ofTime_121 rfl (lv_at hl 2 rfl) ?_
    refine va_lald (tys := gT G) hx hb hE.K hP 4 1 rfl rfl h0 dX2_ofTime_122 ?_
    refine lv_ldc2 (v := (1000 : Int64)) hx hb hown (hw _ bw1357) dX2_ofTime_123 ?_
    refine lv_ldiv hx hb dX2_ofTime_126 (by decide) ?_
    exact re_l hx hb hr hk dX2_ofTime_127 (el (Eq.trans (if_neg c_1) (Eq.trans (if_neg c_2) (Eq.trans (if_neg c_3) (if_pos c_4)))))
  by_cases c_5 : p1 = (4 : Int32)
  · refine lv_tableIn (tgt := 128) (off := 114) hx hb dX2_ofTime_14 (by rw [c_5]; decide) (by rw [c_5]; decide) (by rw [c_5]; decide) (by decide) ?_
    refine lv_aload_n hx hb dX2_ofTime_128 rfl (lv_at hl 1 rfl) ?_
    refine va_get (D := gD G) (cl := vwCl) (tys := gT G) (ci := 4) (v := .ref (b 4)) (C := RX2) (T := TX2) (N := 12) hx hb hw inB_X2 hown hE.K hP 0 rfl rfl 4 (by decide) (hw _ bw1167) (fun _ h9 => h9) rfl dX2_ofTime_129 ?_
    refine lv_iload_n hx hb dX2_ofTime_132 rfl (lv_at hl 2 rfl) ?_
    refine va_lald (tys := gT G) hx hb hE.K hP 4 1 rfl rfl h0 dX2_ofTime_133 ?_
    refine lv_ldc2 (v := (1000000000 : Int64)) hx hb hown (hw _ bw1238) dX2_ofTime_134 ?_
    refine lv_lrem hx hb dX2_ofTime_137 (by decide) ?_
    refine lv_ldc2 (v := (1000000 : Int64)) hx hb hown (hw _ bw1358) dX2_ofTime_138 ?_
    refine lv_ldiv hx hb dX2_ofTime_141 (by decide) ?_
    exact re_l hx hb hr hk dX2_ofTime_142 (el (Eq.trans (if_neg c_1) (Eq.trans (if_neg c_2) (Eq.trans (if_neg c_3) (Eq.trans (if_neg c_4) (if_pos c_5))))))
  by_cases c_6 : p1 = (5 : Int32)
  · refine lv_tableIn (tgt := 143) (off := 129) hx hb dX2_ofTime_14 (by rw [c_6]; decide) (by rw [c_6]; decide) (by rw [c_6]; decide) (by decide) ?_
    refine lv_aload_n hx hb dX2_ofTime_143 rfl (lv_at hl 1 rfl) ?_
    refine va_get (D := gD G) (cl := vwCl) (tys := gT G) (ci := 4) (v := .ref (b 4)) (C := RX2) (T := TX2) (N := 12) hx hb hw inB_X2 hown hE.K hP 0 rfl rfl 4 (by decide) (hw _ bw1167) (fun _ h9 => h9) rfl dX2_ofTime_144 ?_
    refine lv_iload_n hx hb dX2_ofTime_147 rfl (lv_at hl 2 rfl) ?_
    refine va_lald (tys := gT G) hx hb hE.K hP 4 1 rfl rfl h0 dX2_ofTime_148 ?_
    refine lv_ldc2 (v := (1000000 : Int64)) hx hb hown (hw _ bw1358) dX2_ofTime_149 ?_
    refine lv_ldiv hx hb dX2_ofTime_152 (by decide) ?_
    exact re_l hx hb hr hk dX2_ofTime_153 (el (Eq.trans (if_neg c_1) (Eq.trans (if_neg c_2) (Eq.trans (if_neg c_3) (Eq.trans (if_neg c_4) (Eq.trans (if_neg c_5) (if_pos c_6)))))))
  by_cases c_7 : p1 = (6 : Int32)
  · refine lv_tableIn (tgt := 154) (off := 140) hx hb dX2_ofTime_14 (by rw [c_7]; decide) (by rw [c_7]; decide) (by rw [c_7]; decide) (by decide) ?_
    refine lv_aload_n hx hb dX2_ofTime_154 rfl (lv_at hl 1 rfl) ?_
    refine lv_iload_n hx hb dX2_ofTime_155 rfl (lv_at hl 2 rfl) ?_
    refine lv_ldc2 (v := (1000000000 : Int64)) hx hb hown (hw _ bw1238) dX2_ofTime_156 ?_
    refine lv_ldc2 (v := (60 : Int64)) hx hb hown (hw _ bw1237) dX2_ofTime_159 ?_
    refine rcVi (as := [.int p0, .long (1000000000 : Int64), .long (60 : Int64)]) (rest := []) (cl := RX2) C (c_X2_part l G b T p0 (1000000000 : Int64) (60 : Int64) h0 (by decide) (by decide)) F_X2_part rfl bw1476 bw1478 bw45 hE hP (va_recv hE.K hP (ci := 4) (q0 := 0) rfl rfl) hl.1 dX2_ofTime_162 ⟨Nat.le_of_ble_eq_true rfl, Nat.le_of_ble_eq_true rfl⟩ rfl (Nat.le_of_ble_eq_true rfl) ⟨Nat.zero_le _, Nat.zero_le _⟩ ?_
    refine lv_i2l (v := ((fX2_part T p0 (1000000000 : Int64) (60 : Int64)).toInt64)) hx hb dX2_ofTime_165 (by first | rfl | decide) ?_
    exact re_l hx hb hr hk dX2_ofTime_166 (el (Eq.trans (if_neg c_1) (Eq.trans (if_neg c_2) (Eq.trans (if_neg c_3) (Eq.trans (if_neg c_4) (Eq.trans (if_neg c_5) (Eq.trans (if_neg c_6) (if_pos c_7))))))))
  by_cases c_8 : p1 = (7 : Int32)
  · refine lv_tableIn (tgt := 167) (off := 153) hx hb dX2_ofTime_14 (by rw [c_8]; decide) (by rw [c_8]; decide) (by rw [c_8]; decide) (by decide) ?_
    refine lv_aload_n hx hb dX2_ofTime_167 rfl (lv_at hl 1 rfl) ?_
    refine va_get (D := gD G) (cl := vwCl) (tys := gT G) (ci := 4) (v := .ref (b 4)) (C := RX2) (T := TX2) (N := 12) hx hb hw inB_X2 hown hE.K hP 0 rfl rfl 4 (by decide) (hw _ bw1167) (fun _ h9 => h9) rfl dX2_ofTime_168 ?_
    refine lv_iload_n hx hb dX2_ofTime_171 rfl (lv_at hl 2 rfl) ?_
    refine va_lald (tys := gT G) hx hb hE.K hP 4 1 rfl rfl h0 dX2_ofTime_172 ?_
    refine lv_ldc2 (v := (1000000000 : Int64)) hx hb hown (hw _ bw1238) dX2_ofTime_173 ?_
    refine lv_ldiv hx hb dX2_ofTime_176 (by decide) ?_
    exact re_l hx hb hr hk dX2_ofTime_177 (el (Eq.trans (if_neg c_1) (Eq.trans (if_neg c_2) (Eq.trans (if_neg c_3) (Eq.trans (if_neg c_4) (Eq.trans (if_neg c_5) (Eq.trans (if_neg c_6) (Eq.trans (if_neg c_7) (if_pos c_8)))))))))
  by_cases c_9 : p1 = (8 : Int32)
  · refine lv_tableIn (tgt := 178) (off := 164) hx hb dX2_ofTime_14 (by rw [c_9]; decide) (by rw [c_9]; decide) (by rw [c_9]; decide) (by decide) ?_
    refine lv_aload_n hx hb dX2_ofTime_178 rfl (lv_at hl 1 rfl) ?_
    refine lv_iload_n hx hb dX2_ofTime_179 rfl (lv_at hl 2 rfl) ?_
    refine lv_iconst (v := (4 : Int32)) hx hb dX2_ofTime_180 (by decide) ?_
    refine rcSl (as := [.int (4 : Int32)]) (rest := [.int p0, .ref (b 0)]) C (c_X2_nanosOf l G (4 : Int32)) F_X2_nanosOf rfl bw1354 bw1355 hE vpn hl.1 dX2_ofTime_181 ⟨Nat.le_of_ble_eq_true rfl, Nat.le_of_ble_eq_true rfl⟩ rfl (Nat.le_of_ble_eq_true rfl) ⟨Nat.zero_le _, Nat.zero_le _⟩ ?_
    refine lv_ldc2 (v := (60 : Int64)) hx hb hown (hw _ bw1237) dX2_ofTime_184 ?_
    refine rcVi (as := [.int p0, .long (fX2_nanosOf (4 : Int32)), .long (60 : Int64)]) (rest := []) (cl := RX2) C (c_X2_part l G b T p0 (fX2_nanosOf (4 : Int32)) (60 : Int64) h0 (nz_nanosOf (4 : Int32)) (by decide)) F_X2_part rfl bw1476 bw1478 bw45 hE hP (va_recv hE.K hP (ci := 4) (q0 := 0) rfl rfl) hl.1 dX2_ofTime_187 ⟨Nat.le_of_ble_eq_true rfl, Nat.le_of_ble_eq_true rfl⟩ rfl (Nat.le_of_ble_eq_true rfl) ⟨Nat.zero_le _, Nat.zero_le _⟩ ?_
    refine lv_i2l (v := ((fX2_part T p0 (fX2_nanosOf (4 : Int32)) (60 : Int64)).toInt64)) hx hb dX2_ofTime_190 (by first | rfl | decide) ?_
    exact re_l hx hb hr hk dX2_ofTime_191 (el (Eq.trans (if_neg c_1) (Eq.trans (if_neg c_2) (Eq.trans (if_neg c_3) (Eq.trans (if_neg c_4) (Eq.trans (if_neg c_5) (Eq.trans (if_neg c_6) (Eq.trans (if_neg c_7) (Eq.trans (if_neg c_8) (if_pos c_9))))))))))
  by_cases c_10 : p1 = (9 : Int32)
  · refine lv_tableIn (tgt := 192) (off := 178) hx hb dX2_ofTime_14 (by rw [c_10]; decide) (by rw [c_10]; decide) (by rw [c_10]; decide) (by decide) ?_
    refine lv_aload_n hx hb dX2_ofTime_192 rfl (lv_at hl 1 rfl) ?_
    refine va_get (D := gD G) (cl := vwCl) (tys := gT G) (ci := 4) (v := .ref (b 4)) (C := RX2) (T := TX2) (N := 12) hx hb hw inB_X2 hown hE.K hP 0 rfl rfl 4 (by decide) (hw _ bw1167) (fun _ h9 => h9) rfl dX2_ofTime_193 ?_
    refine lv_iload_n hx hb dX2_ofTime_196 rfl (lv_at hl 2 rfl) ?_
    refine va_lald (tys := gT G) hx hb hE.K hP 4 1 rfl rfl h0 dX2_ofTime_197 ?_
    refine lv_iconst (v := (4 : Int32)) hx hb dX2_ofTime_198 (by decide) ?_
    refine rcSl (as := [.int (4 : Int32)]) (rest := [.long (mt T p0.toNatClampNeg)]) C (c_X2_nanosOf l G (4 : Int32)) F_X2_nanosOf rfl bw1354 bw1355 hE vpn hl.1 dX2_ofTime_199 ⟨Nat.le_of_ble_eq_true rfl, Nat.le_of_ble_eq_true rfl⟩ rfl (Nat.le_of_ble_eq_true rfl) ⟨Nat.zero_le _, Nat.zero_le _⟩ ?_
    refine lv_ldiv hx hb dX2_ofTime_202 (nz_nanosOf (4 : Int32)) ?_
    exact re_l hx hb hr hk dX2_ofTime_203 (el (Eq.trans (if_neg c_1) (Eq.trans (if_neg c_2) (Eq.trans (if_neg c_3) (Eq.trans (if_neg c_4) (Eq.trans (if_neg c_5) (Eq.trans (if_neg c_6) (Eq.trans (if_neg c_7) (Eq.trans (if_neg c_8) (Eq.trans (if_neg c_9) (if_pos c_10)))))))))))
  by_cases c_11 : p1 = (10 : Int32)
  · refine lv_tableIn (tgt := 204) (off := 190) hx hb dX2_ofTime_14 (by rw [c_11]; decide) (by rw [c_11]; decide) (by rw [c_11]; decide) (by decide) ?_
    refine lv_iload_n hx hb dX2_ofTime_204 rfl (lv_at hl 0 rfl) ?_
    refine lv_bipush (v := (12 : Int32)) hx hb dX2_ofTime_205 (by decide) ?_
    refine lv_irem hx hb dX2_ofTime_207 (by decide) ?_
    refine lv_i2l (v := (((fX2_part T p0 (fX2_nanosOf (5 : Int32)) (24 : Int64)) - (fX2_part T p0 (fX2_nanosOf (5 : Int32)) (24 : Int64)) / (12 : Int32) * (12 : Int32)).toInt64)) hx hb dX2_ofTime_208 (by first | rfl | decide) ?_
    exact re_l hx hb hr hk dX2_ofTime_209 (el (Eq.trans (if_neg c_1) (Eq.trans (if_neg c_2) (Eq.trans (if_neg c_3) (Eq.trans (if_neg c_4) (Eq.trans (if_neg c_5) (Eq.trans (if_neg c_6) (Eq.trans (if_neg c_7) (Eq.trans (if_neg c_8) (Eq.trans (if_neg c_9) (Eq.trans (if_neg c_10) (if_pos c_11))))))))))))
  by_cases c_12 : p1 = (11 : Int32)
  · refine lv_tableIn (tgt := 210) (off := 196) hx hb dX2_ofTime_14 (by rw [c_12]; decide) (by rw [c_12]; decide) (by rw [c_12]; decide) (by decide) ?_
    refine lv_iload_n hx hb dX2_ofTime_210 rfl (lv_at hl 0 rfl) ?_
    refine lv_bipush (v := (12 : Int32)) hx hb dX2_ofTime_211 (by decide) ?_
    refine lv_irem hx hb dX2_ofTime_213 (by decide) ?_
    refine lv_if_ne (tgt := 223) hx hb dX2_ofTime_214 (by decide) (fun c_13 => ?_) (fun c_13 => ?_)
    · refine lv_iload_n hx hb dX2_ofTime_223 rfl (lv_at hl 0 rfl) ?_
      refine lv_bipush (v := (12 : Int32)) hx hb dX2_ofTime_224 (by decide) ?_
      refine lv_irem hx hb dX2_ofTime_226 (by decide) ?_
      refine lv_i2l (v := (((fX2_part T p0 (fX2_nanosOf (5 : Int32)) (24 : Int64)) - (fX2_part T p0 (fX2_nanosOf (5 : Int32)) (24 : Int64)) / (12 : Int32) * (12 : Int32)).toInt64)) hx hb dX2_ofTime_227 (by first | rfl | decide) ?_
      exact re_l hx hb hr hk dX2_ofTime_228 (el (Eq.trans (if_neg c_1) (Eq.trans (if_neg c_2) (Eq.trans (if_neg c_3) (Eq.trans (if_neg c_4) (Eq.trans (if_neg c_5) (Eq.trans (if_neg c_6) (Eq.trans (if_neg c_7) (Eq.trans (if_neg c_8) (Eq.trans (if_neg c_9) (Eq.trans (if_neg c_10) (Eq.trans (if_neg c_11) (Eq.trans (if_pos c_12) (if_neg c_13))))))))))))))
    · refine lv_ldc2 (v := (12 : Int64)) hx hb hown (hw _ bw1368) dX2_ofTime_217 ?_
      refine lv_goto (tgt := 228) hx hb dX2_ofTime_220 (by decide) ?_
      exact re_l hx hb hr hk dX2_ofTime_228 (el (Eq.trans (if_neg c_1) (Eq.trans (if_neg c_2) (Eq.trans (if_neg c_3) (Eq.trans (if_neg c_4) (Eq.trans (if_neg c_5) (Eq.trans (if_neg c_6) (Eq.trans (if_neg c_7) (Eq.trans (if_neg c_8) (Eq.trans (if_neg c_9) (Eq.trans (if_neg c_10) (Eq.trans (if_neg c_11) (Eq.trans (if_pos c_12) (if_pos c_13))))))))))))))
  by_cases c_14 : p1 = (12 : Int32)
  · refine lv_tableIn (tgt := 229) (off := 215) hx hb dX2_ofTime_14 (by rw [c_14]; decide) (by rw [c_14]; decide) (by rw [c_14]; decide) (by decide) ?_
    refine lv_iload_n hx hb dX2_ofTime_229 rfl (lv_at hl 0 rfl) ?_
    refine lv_i2l (v := ((fX2_part T p0 (fX2_nanosOf (5 : Int32)) (24 : Int64)).toInt64)) hx hb dX2_ofTime_230 (by first | rfl | decide) ?_
    exact re_l hx hb hr hk dX2_ofTime_231 (el (Eq.trans (if_neg c_1) (Eq.trans (if_neg c_2) (Eq.trans (if_neg c_3) (Eq.trans (if_neg c_4) (Eq.trans (if_neg c_5) (Eq.trans (if_neg c_6) (Eq.trans (if_neg c_7) (Eq.trans (if_neg c_8) (Eq.trans (if_neg c_9) (Eq.trans (if_neg c_10) (Eq.trans (if_neg c_11) (Eq.trans (if_neg c_12) (if_pos c_14))))))))))))))
  by_cases c_15 : p1 = (13 : Int32)
  · refine lv_tableIn (tgt := 232) (off := 218) hx hb dX2_ofTime_14 (by rw [c_15]; decide) (by rw [c_15]; decide) (by rw [c_15]; decide) (by decide) ?_
    refine lv_iload_n hx hb dX2_ofTime_232 rfl (lv_at hl 0 rfl) ?_
    refine lv_if_ne (tgt := 242) hx hb dX2_ofTime_233 (by decide) (fun c_16 => ?_) (fun c_16 => ?_)
    · refine lv_iload_n hx hb dX2_ofTime_242 rfl (lv_at hl 0 rfl) ?_
      refine lv_i2l (v := ((fX2_part T p0 (fX2_nanosOf (5 : Int32)) (24 : Int64)).toInt64)) hx hb dX2_ofTime_243 (by first | rfl | decide) ?_
      exact re_l hx hb hr hk dX2_ofTime_244 (el (Eq.trans (if_neg c_1) (Eq.trans (if_neg c_2) (Eq.trans (if_neg c_3) (Eq.trans (if_neg c_4) (Eq.trans (if_neg c_5) (Eq.trans (if_neg c_6) (Eq.trans (if_neg c_7) (Eq.trans (if_neg c_8) (Eq.trans (if_neg c_9) (Eq.trans (if_neg c_10) (Eq.trans (if_neg c_11) (Eq.trans (if_neg c_12) (Eq.trans (if_neg c_14) (Eq.trans (if_pos c_15) (if_neg c_16))))))))))))))))
    · refine lv_ldc2 (v := (24 : Int64)) hx hb hown (hw _ bw1332) dX2_ofTime_236 ?_
      refine lv_goto (tgt := 244) hx hb dX2_ofTime_239 (by decide) ?_
      exact re_l hx hb hr hk dX2_ofTime_244 (el (Eq.trans (if_neg c_1) (Eq.trans (if_neg c_2) (Eq.trans (if_neg c_3) (Eq.trans (if_neg c_4) (Eq.trans (if_neg c_5) (Eq.trans (if_neg c_6) (Eq.trans (if_neg c_7) (Eq.trans (if_neg c_8) (Eq.trans (if_neg c_9) (Eq.trans (if_neg c_10) (Eq.trans (if_neg c_11) (Eq.trans (if_neg c_12) (Eq.trans (if_neg c_14) (Eq.trans (if_pos c_15) (if_pos c_16))))))))))))))))
  have nc_1 := lv_neT c_1 (a := 0) (by decide)
  have nc_2 := lv_neT c_2 (a := 1) (by decide)
  have nc_3 := lv_neT c_3 (a := 2) (by decide)
  have nc_4 := lv_neT c_4 (a := 3) (by decide)
  have nc_5 := lv_neT c_5 (a := 4) (by decide)
  have nc_6 := lv_neT c_6 (a := 5) (by decide)
  have nc_7 := lv_neT c_7 (a := 6) (by decide)
  have nc_8 := lv_neT c_8 (a := 7) (by decide)
  have nc_9 := lv_neT c_9 (a := 8) (by decide)
  have nc_10 := lv_neT c_10 (a := 9) (by decide)
  have nc_11 := lv_neT c_11 (a := 10) (by decide)
  have nc_12 := lv_neT c_12 (a := 11) (by decide)
  have nc_14 := lv_neT c_14 (a := 12) (by decide)
  have nc_15 := lv_neT c_15 (a := 13) (by decide)
  refine lv_tableOut (tgt := 245) hx hb dX2_ofTime_14 (by omega) (by decide) ?_
  refine lv_iload_n hx hb dX2_ofTime_245 rfl (lv_at hl 0 rfl) ?_
  refine lv_bipush (v := (12 : Int32)) hx hb dX2_ofTime_246 (by decide) ?_
  refine lv_icmp_ge (tgt := 255) hx hb dX2_ofTime_248 (by decide) (fun c_17 => ?_) (fun c_17 => ?_)
  · refine lv_lconst (v := (1 : Int64)) hx hb dX2_ofTime_255 (by decide) ?_
    exact re_l hx hb hr hk dX2_ofTime_256 (el (Eq.trans (if_neg c_1) (Eq.trans (if_neg c_2) (Eq.trans (if_neg c_3) (Eq.trans (if_neg c_4) (Eq.trans (if_neg c_5) (Eq.trans (if_neg c_6) (Eq.trans (if_neg c_7) (Eq.trans (if_neg c_8) (Eq.trans (if_neg c_9) (Eq.trans (if_neg c_10) (Eq.trans (if_neg c_11) (Eq.trans (if_neg c_12) (Eq.trans (if_neg c_14) (Eq.trans (if_neg c_15) (if_pos c_17))))))))))))))))
  · refine lv_lconst (v := (0 : Int64)) hx hb dX2_ofTime_251 (by decide) ?_
    refine lv_goto (tgt := 256) hx hb dX2_ofTime_252 (by decide) ?_
    exact re_l hx hb hr hk dX2_ofTime_256 (el (Eq.trans (if_neg c_1) (Eq.trans (if_neg c_2) (Eq.trans (if_neg c_3) (Eq.trans (if_neg c_4) (Eq.trans (if_neg c_5) (Eq.trans (if_neg c_6) (Eq.trans (if_neg c_7) (Eq.trans (if_neg c_8) (Eq.trans (if_neg c_9) (Eq.trans (if_neg c_10) (Eq.trans (if_neg c_11) (Eq.trans (if_neg c_12) (Eq.trans (if_neg c_14) (Eq.trans (if_neg c_15) (if_neg c_17))))))))))))))))

