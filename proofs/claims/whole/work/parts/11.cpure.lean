set_option maxRecDepth 100000 in
set_option maxHeartbeats 4000000 in
theorem c_J9_floorDiv_7cf53 (l : Launch) (G : GT) (p0 : Int32) (p1 : Int32) (h1 : ¬ p1 = 0) : RO l G yJ9_floorDiv_7cf53 cJ9_floorDiv_7cf53 3 (some .int) 1 [.int p0, .int p1] [] (some (.int (fJ9_floorDiv_7cf53 p0 p1))) := by
  refine RO.ofW (own := RJ9) rfl (pfM rfl (by decide +kernel)) (Nat.le_of_ble_eq_true rfl) ?_
  intro p e s m below meth c C hr hk hE hP ls hl
  have hx := C.1
  have hb := C.2.1
  have hown := C.2.2.2.1
  have hw := C.2.2.2.2
  have hl : lv_has ls 3 [(0, .int p0), (1, .int p1)] := hl
  refine lv_iload_n hx hb dJ9_floorDiv_7cf53_0 rfl (lv_at hl 0 rfl) ?_
  refine lv_iload_n hx hb dJ9_floorDiv_7cf53_1 rfl (lv_at hl 1 rfl) ?_
  refine lv_idiv hx hb dJ9_floorDiv_7cf53_2 h1 ?_
  refine lv_istore_n (lv' := [(2, .int (p0 / p1)), (0, .int p0), (1, .int p1)]) hx hb dJ9_floorDiv_7cf53_3 rfl hl (Nat.le_of_ble_eq_true rfl) rfl (fun ls hl => ?_)
  refine lv_iload_n hx hb dJ9_floorDiv_7cf53_4 rfl (lv_at hl 1 rfl) ?_
  refine lv_iload_n hx hb dJ9_floorDiv_7cf53_5 rfl (lv_at hl 2 rfl) ?_
  refine lv_ixor hx hb dJ9_floorDiv_7cf53_6 ?_
  refine lv_if_ge (tgt := 21) hx hb dJ9_floorDiv_7cf53_7 (by decide) (fun c_1 => ?_) (fun c_1 => ?_)
  · refine lv_iload_n hx hb dJ9_floorDiv_7cf53_21 rfl (lv_at hl 0 rfl) ?_
    exact re_i hx hb hr hk dJ9_floorDiv_7cf53_22 (ei (if_pos c_1))
  · refine lv_iload_n hx hb dJ9_floorDiv_7cf53_10 rfl (lv_at hl 0 rfl) ?_
    refine lv_iload_n hx hb dJ9_floorDiv_7cf53_11 rfl (lv_at hl 2 rfl) ?_
    refine lv_imul hx hb dJ9_floorDiv_7cf53_12 ?_
    refine lv_iload_n hx hb dJ9_floorDiv_7cf53_13 rfl (lv_at hl 1 rfl) ?_
    refine lv_icmp_eq (tgt := 21) hx hb dJ9_floorDiv_7cf53_14 (by decide) (fun c_2 => ?_) (fun c_2 => ?_)
    · refine lv_iload_n hx hb dJ9_floorDiv_7cf53_21 rfl (lv_at hl 0 rfl) ?_
      exact re_i hx hb hr hk dJ9_floorDiv_7cf53_22 (ei (Eq.trans (if_neg c_1) (if_pos c_2)))
    · refine lv_iload_n hx hb dJ9_floorDiv_7cf53_17 rfl (lv_at hl 0 rfl) ?_
      refine lv_iconst (v := (1 : Int32)) hx hb dJ9_floorDiv_7cf53_18 qi_1 ?_
      refine lv_isub hx hb dJ9_floorDiv_7cf53_19 ?_
      exact re_i hx hb hr hk dJ9_floorDiv_7cf53_20 (ei (Eq.trans (if_neg c_1) (if_neg c_2)))

set_option maxRecDepth 100000 in
set_option maxHeartbeats 4000000 in
theorem c_J9_floorDiv_f86c9 (l : Launch) (G : GT) (p0 : Int64) (p1 : Int64) (h1 : ¬ p1 = 0) : RO l G yJ9_floorDiv_f86c9 cJ9_floorDiv_f86c9 6 (some .long) 1 [.long p0, .long p1] [] (some (.long (fJ9_floorDiv_f86c9 p0 p1))) := by
  refine RO.ofW (own := RJ9) rfl (pfM rfl (by decide +kernel)) (Nat.le_of_ble_eq_true rfl) ?_
  intro p e s m below meth c C hr hk hE hP ls hl
  have hx := C.1
  have hb := C.2.1
  have hown := C.2.2.2.1
  have hw := C.2.2.2.2
  have hl : lv_has ls 6 [(0, .long p0), (2, .long p1)] := hl
  refine lv_lload_n hx hb dJ9_floorDiv_f86c9_0 rfl (lv_at hl 0 rfl) ?_
  refine lv_lload_n hx hb dJ9_floorDiv_f86c9_1 rfl (lv_at hl 1 rfl) ?_
  refine lv_ldiv hx hb dJ9_floorDiv_f86c9_2 h1 ?_
  refine lv_lstore (lv' := [(4, .long (p0 / p1)), (0, .long p0), (2, .long p1)]) hx hb dJ9_floorDiv_f86c9_3 hl (Nat.le_of_ble_eq_true rfl) rfl (fun ls hl => ?_)
  refine lv_lload_n hx hb dJ9_floorDiv_f86c9_5 rfl (lv_at hl 1 rfl) ?_
  refine lv_lload_n hx hb dJ9_floorDiv_f86c9_6 rfl (lv_at hl 2 rfl) ?_
  refine lv_lxor hx hb dJ9_floorDiv_f86c9_7 ?_
  refine lv_lconst (v := (0 : Int64)) hx hb dJ9_floorDiv_f86c9_8 ql_0 ?_
  refine W.lcmp hx hb dJ9_floorDiv_f86c9_9 ?_
  refine lv_if_ge (tgt := 27) hx hb dJ9_floorDiv_f86c9_10 (by decide) (fun c_1 => ?_) (fun c_1 => ?_)
  · refine lv_lload hx hb dJ9_floorDiv_f86c9_27 (lv_at hl 0 rfl) ?_
    exact re_l hx hb hr hk dJ9_floorDiv_f86c9_29 (el (if_pos c_1))
  · refine lv_lload hx hb dJ9_floorDiv_f86c9_13 (lv_at hl 0 rfl) ?_
    refine lv_lload_n hx hb dJ9_floorDiv_f86c9_15 rfl (lv_at hl 2 rfl) ?_
    refine lv_lmul hx hb dJ9_floorDiv_f86c9_16 ?_
    refine lv_lload_n hx hb dJ9_floorDiv_f86c9_17 rfl (lv_at hl 1 rfl) ?_
    refine W.lcmp hx hb dJ9_floorDiv_f86c9_18 ?_
    refine lv_if_eq (tgt := 27) hx hb dJ9_floorDiv_f86c9_19 (by decide) (fun c_2 => ?_) (fun c_2 => ?_)
    · refine lv_lload hx hb dJ9_floorDiv_f86c9_27 (lv_at hl 0 rfl) ?_
      exact re_l hx hb hr hk dJ9_floorDiv_f86c9_29 (el (Eq.trans (if_neg c_1) (if_pos c_2)))
    · refine lv_lload hx hb dJ9_floorDiv_f86c9_22 (lv_at hl 0 rfl) ?_
      refine lv_lconst (v := (1 : Int64)) hx hb dJ9_floorDiv_f86c9_24 ql_1 ?_
      refine lv_lsub hx hb dJ9_floorDiv_f86c9_25 ?_
      exact re_l hx hb hr hk dJ9_floorDiv_f86c9_26 (el (Eq.trans (if_neg c_1) (if_neg c_2)))

set_option maxRecDepth 100000 in
set_option maxHeartbeats 4000000 in
theorem c_J9_floorMod_f86c9 (l : Launch) (G : GT) (p0 : Int64) (p1 : Int64) (h1 : ¬ p1 = 0) : RO l G yJ9_floorMod_f86c9 cJ9_floorMod_f86c9 6 (some .long) 1 [.long p0, .long p1] [] (some (.long (fJ9_floorMod_f86c9 p0 p1))) := by
  refine RO.ofW (own := RJ9) rfl (pfM rfl (by decide +kernel)) (Nat.le_of_ble_eq_true rfl) ?_
  intro p e s m below meth c C hr hk hE hP ls hl
  have hx := C.1
  have hb := C.2.1
  have hown := C.2.2.2.1
  have hw := C.2.2.2.2
  have hl : lv_has ls 6 [(0, .long p0), (2, .long p1)] := hl
  refine lv_lload_n hx hb dJ9_floorMod_f86c9_0 rfl (lv_at hl 0 rfl) ?_
  refine lv_lload_n hx hb dJ9_floorMod_f86c9_1 rfl (lv_at hl 1 rfl) ?_
  refine lv_lrem hx hb dJ9_floorMod_f86c9_2 h1 ?_
  refine lv_lstore (lv' := [(4, .long (p0 - p0 / p1 * p1)), (0, .long p0), (2, .long p1)]) hx hb dJ9_floorMod_f86c9_3 hl (Nat.le_of_ble_eq_true rfl) rfl (fun ls hl => ?_)
  refine lv_lload_n hx hb dJ9_floorMod_f86c9_5 rfl (lv_at hl 1 rfl) ?_
  refine lv_lload_n hx hb dJ9_floorMod_f86c9_6 rfl (lv_at hl 2 rfl) ?_
  refine lv_lxor hx hb dJ9_floorMod_f86c9_7 ?_
  refine lv_lconst (v := (0 : Int64)) hx hb dJ9_floorMod_f86c9_8 ql_0 ?_
  refine W.lcmp hx hb dJ9_floorMod_f86c9_9 ?_
  refine lv_if_ge (tgt := 25) hx hb dJ9_floorMod_f86c9_10 (by decide) (fun c_1 => ?_) (fun c_1 => ?_)
  · refine lv_lload hx hb dJ9_floorMod_f86c9_25 (lv_at hl 0 rfl) ?_
    exact re_l hx hb hr hk dJ9_floorMod_f86c9_27 (el (if_pos c_1))
  · refine lv_lload hx hb dJ9_floorMod_f86c9_13 (lv_at hl 0 rfl) ?_
    refine lv_lconst (v := (0 : Int64)) hx hb dJ9_floorMod_f86c9_15 ql_0 ?_
    refine W.lcmp hx hb dJ9_floorMod_f86c9_16 ?_
    refine lv_if_eq (tgt := 25) hx hb dJ9_floorMod_f86c9_17 (by decide) (fun c_2 => ?_) (fun c_2 => ?_)
    · refine lv_lload hx hb dJ9_floorMod_f86c9_25 (lv_at hl 0 rfl) ?_
      exact re_l hx hb hr hk dJ9_floorMod_f86c9_27 (el (Eq.trans (if_neg c_1) (if_pos c_2)))
    · refine lv_lload hx hb dJ9_floorMod_f86c9_20 (lv_at hl 0 rfl) ?_
      refine lv_lload_n hx hb dJ9_floorMod_f86c9_22 rfl (lv_at hl 2 rfl) ?_
      refine lv_ladd hx hb dJ9_floorMod_f86c9_23 ?_
      exact re_l hx hb hr hk dJ9_floorMod_f86c9_24 (el (Eq.trans (if_neg c_1) (if_neg c_2)))

set_option maxRecDepth 100000 in
set_option maxHeartbeats 4000000 in
theorem c_J9_abs_067f4 (l : Launch) (G : GT) (p0 : Int64) : RO l G yJ9_abs_067f4 cJ9_abs_067f4 2 (some .long) 1 [.long p0] [] (some (.long (fJ9_abs_067f4 p0))) := by
  refine RO.ofW (own := RJ9) rfl (pfM rfl (by decide +kernel)) (Nat.le_of_ble_eq_true rfl) ?_
  intro p e s m below meth c C hr hk hE hP ls hl
  have hx := C.1
  have hb := C.2.1
  have hown := C.2.2.2.1
  have hw := C.2.2.2.2
  have hl : lv_has ls 2 [(0, .long p0)] := hl
  refine lv_lload_n hx hb dJ9_abs_067f4_0 rfl (lv_at hl 0 rfl) ?_
  refine lv_lconst (v := (0 : Int64)) hx hb dJ9_abs_067f4_1 ql_0 ?_
  refine W.lcmp hx hb dJ9_abs_067f4_2 ?_
  refine lv_if_ge (tgt := 11) hx hb dJ9_abs_067f4_3 (by decide) (fun c_1 => ?_) (fun c_1 => ?_)
  · refine lv_lload_n hx hb dJ9_abs_067f4_11 rfl (lv_at hl 0 rfl) ?_
    exact re_l hx hb hr hk dJ9_abs_067f4_12 (el (if_pos c_1))
  · refine lv_lload_n hx hb dJ9_abs_067f4_6 rfl (lv_at hl 0 rfl) ?_
    refine lv_lneg hx hb dJ9_abs_067f4_7 ?_
    refine lv_goto (tgt := 12) hx hb dJ9_abs_067f4_8 (by decide) ?_
    exact re_l hx hb hr hk dJ9_abs_067f4_12 (el (if_neg c_1))

set_option maxRecDepth 100000 in
set_option maxHeartbeats 4000000 in
theorem c_J9_min_7cf53 (l : Launch) (G : GT) (p0 : Int32) (p1 : Int32) : RO l G yJ9_min_7cf53 cJ9_min_7cf53 2 (some .int) 1 [.int p0, .int p1] [] (some (.int (fJ9_min_7cf53 p0 p1))) := by
  refine RO.ofW (own := RJ9) rfl (pfM rfl (by decide +kernel)) (Nat.le_of_ble_eq_true rfl) ?_
  intro p e s m below meth c C hr hk hE hP ls hl
  have hx := C.1
  have hb := C.2.1
  have hown := C.2.2.2.1
  have hw := C.2.2.2.2
  have hl : lv_has ls 2 [(0, .int p0), (1, .int p1)] := hl
  refine lv_iload_n hx hb dJ9_min_7cf53_0 rfl (lv_at hl 0 rfl) ?_
  refine lv_iload_n hx hb dJ9_min_7cf53_1 rfl (lv_at hl 1 rfl) ?_
  refine lv_icmp_gt (tgt := 9) hx hb dJ9_min_7cf53_2 (by decide) (fun c_1 => ?_) (fun c_1 => ?_)
  · refine lv_iload_n hx hb dJ9_min_7cf53_9 rfl (lv_at hl 1 rfl) ?_
    exact re_i hx hb hr hk dJ9_min_7cf53_10 (ei (if_pos c_1))
  · refine lv_iload_n hx hb dJ9_min_7cf53_5 rfl (lv_at hl 0 rfl) ?_
    refine lv_goto (tgt := 10) hx hb dJ9_min_7cf53_6 (by decide) ?_
    exact re_i hx hb hr hk dJ9_min_7cf53_10 (ei (if_neg c_1))

set_option maxRecDepth 100000 in
set_option maxHeartbeats 4000000 in
theorem c_X0_isLeapYear (l : Launch) (G : GT) (p0 : Int32) : RO l G yX0_isLeapYear cX0_isLeapYear 1 (some .boolean) 1 [.int p0] [] (some (.int (fX0_isLeapYear p0))) := by
  refine RO.ofW (own := RX0) rfl (plainFor_of_name pnN_RX0) (Nat.le_of_ble_eq_true rfl) ?_
  intro p e s m below meth c C hr hk hE hP ls hl
  have hx := C.1
  have hb := C.2.1
  have hown := C.2.2.2.1
  have hw := C.2.2.2.2
  have hl : lv_has ls 1 [(0, .int p0)] := hl
  refine lv_iload_n hx hb dX0_isLeapYear_0 rfl (lv_at hl 0 rfl) ?_
  refine lv_iconst (v := (4 : Int32)) hx hb dX0_isLeapYear_1 qi_4 ?_
  refine lv_irem hx hb dX0_isLeapYear_2 (by decide) ?_
  refine lv_if_ne (tgt := 25) hx hb dX0_isLeapYear_3 (by decide) (fun c_1 => ?_) (fun c_1 => ?_)
  · refine lv_iconst (v := (0 : Int32)) hx hb dX0_isLeapYear_25 qi_0 ?_
    exact re_z (ty := .boolean) hx hb hr hk (by decide) dX0_isLeapYear_26 (ei (if_neg c_1))
  · refine lv_iload_n hx hb dX0_isLeapYear_6 rfl (lv_at hl 0 rfl) ?_
    refine lv_bipush (v := (100 : Int32)) hx hb dX0_isLeapYear_7 qb_100 ?_
    refine lv_irem hx hb dX0_isLeapYear_9 (by decide) ?_
    refine lv_if_ne (tgt := 21) hx hb dX0_isLeapYear_10 (by decide) (fun c_2 => ?_) (fun c_2 => ?_)
    · refine lv_iconst (v := (1 : Int32)) hx hb dX0_isLeapYear_21 qi_1 ?_
      refine lv_goto (tgt := 26) hx hb dX0_isLeapYear_22 (by decide) ?_
      exact re_z (ty := .boolean) hx hb hr hk (by decide) dX0_isLeapYear_26 (ei (Eq.trans (if_pos c_1) (if_neg c_2)))
    · refine lv_iload_n hx hb dX0_isLeapYear_13 rfl (lv_at hl 0 rfl) ?_
      refine lv_sipush (v := (400 : Int32)) hx hb dX0_isLeapYear_14 qs_400 ?_
      refine lv_irem hx hb dX0_isLeapYear_17 (by decide) ?_
      refine lv_if_ne (tgt := 25) hx hb dX0_isLeapYear_18 (by decide) (fun c_3 => ?_) (fun c_3 => ?_)
      · refine lv_iconst (v := (0 : Int32)) hx hb dX0_isLeapYear_25 qi_0 ?_
        exact re_z (ty := .boolean) hx hb hr hk (by decide) dX0_isLeapYear_26 (ei (Eq.trans (if_pos c_1) (Eq.trans (if_pos c_2) (if_neg c_3))))
      · refine lv_iconst (v := (1 : Int32)) hx hb dX0_isLeapYear_21 qi_1 ?_
        refine lv_goto (tgt := 26) hx hb dX0_isLeapYear_22 (by decide) ?_
        exact re_z (ty := .boolean) hx hb hr hk (by decide) dX0_isLeapYear_26 (ei (Eq.trans (if_pos c_1) (Eq.trans (if_pos c_2) (if_pos c_3))))

set_option maxRecDepth 100000 in
set_option maxHeartbeats 4000000 in
theorem c_X0_yearLength (l : Launch) (G : GT) (p0 : Int32) : RO l G yX0_yearLength cX0_yearLength 1 (some .int) 2 [.int p0] [] (some (.int (fX0_yearLength p0))) := by
  refine RO.ofW (own := RX0) rfl (plainFor_of_name pnN_RX0) (Nat.le_of_ble_eq_true rfl) ?_
  intro p e s m below meth c C hr hk hE hP ls hl
  have hx := C.1
  have hb := C.2.1
  have hown := C.2.2.2.1
  have hw := C.2.2.2.2
  have hl : lv_has ls 1 [(0, .int p0)] := hl
  refine lv_iload_n hx hb dX0_yearLength_0 rfl (lv_at hl 0 rfl) ?_
  refine rcSi (as := [.int p0]) (rest := []) C (c_X0_isLeapYear l G p0) F_X0_isLeapYear rfl bw175 bw176 hE vpn hl.1 dX0_yearLength_1 ⟨Nat.le_of_ble_eq_true rfl, Nat.le_of_ble_eq_true rfl⟩ rfl (Nat.le_of_ble_eq_true rfl) ⟨Nat.zero_le _, Nat.zero_le _⟩ ?_
  refine lv_if_eq (tgt := 13) hx hb dX0_yearLength_4 (by decide) (fun c_1 => ?_) (fun c_1 => ?_)
  · refine lv_sipush (v := (365 : Int32)) hx hb dX0_yearLength_13 qs_365 ?_
    exact re_i hx hb hr hk dX0_yearLength_16 (ei (if_pos c_1))
  · refine lv_sipush (v := (366 : Int32)) hx hb dX0_yearLength_7 qs_366 ?_
    refine lv_goto (tgt := 16) hx hb dX0_yearLength_10 (by decide) ?_
    exact re_i hx hb hr hk dX0_yearLength_16 (ei (if_neg c_1))

set_option maxRecDepth 100000 in
set_option maxHeartbeats 4000000 in
theorem c_X0_monthLength (l : Launch) (G : GT) (p0 : Int32) (p1 : Int32) : RO l G yX0_monthLength cX0_monthLength 2 (some .int) 2 [.int p0, .int p1] [] (some (.int (fX0_monthLength p0 p1))) := by
  refine RO.ofW (own := RX0) rfl (plainFor_of_name pnN_RX0) (Nat.le_of_ble_eq_true rfl) ?_
  intro p e s m below meth c C hr hk hE hP ls hl
  have hx := C.1
  have hb := C.2.1
  have hown := C.2.2.2.1
  have hw := C.2.2.2.2
  have hl : lv_has ls 2 [(0, .int p0), (1, .int p1)] := hl
  refine lv_iload_n hx hb dX0_monthLength_0 rfl (lv_at hl 1 rfl) ?_
  by_cases c_1 : p1 = (2 : Int32)
  · refine lv_tableIn (tgt := 56) (off := 55) hx hb dX0_monthLength_1 (by rw [c_1]; decide) (by rw [c_1]; decide) (by rw [c_1]; decide) (by decide) ?_
    refine lv_iload_n hx hb dX0_monthLength_56 rfl (lv_at hl 0 rfl) ?_
    refine rcSi (as := [.int p0]) (rest := []) C (c_X0_isLeapYear l G p0) F_X0_isLeapYear rfl bw175 bw176 hE vpn hl.1 dX0_monthLength_57 ⟨Nat.le_of_ble_eq_true rfl, Nat.le_of_ble_eq_true rfl⟩ rfl (Nat.le_of_ble_eq_true rfl) ⟨Nat.zero_le _, Nat.zero_le _⟩ ?_
    refine lv_if_eq (tgt := 68) hx hb dX0_monthLength_60 (by decide) (fun c_2 => ?_) (fun c_2 => ?_)
    · refine lv_bipush (v := (28 : Int32)) hx hb dX0_monthLength_68 qb_28 ?_
      exact re_i hx hb hr hk dX0_monthLength_70 (ei (Eq.trans (if_pos c_1) (if_pos c_2)))
    · refine lv_bipush (v := (29 : Int32)) hx hb dX0_monthLength_63 qb_29 ?_
      refine lv_goto (tgt := 70) hx hb dX0_monthLength_65 (by decide) ?_
      exact re_i hx hb hr hk dX0_monthLength_70 (ei (Eq.trans (if_pos c_1) (if_neg c_2)))
  by_cases c_3 : p1 = (3 : Int32)
  · refine lv_tableIn (tgt := 74) (off := 73) hx hb dX0_monthLength_1 (by rw [c_3]; decide) (by rw [c_3]; decide) (by rw [c_3]; decide) (by decide) ?_
    refine lv_bipush (v := (31 : Int32)) hx hb dX0_monthLength_74 qb_31 ?_
    exact re_i hx hb hr hk dX0_monthLength_76 (ei (Eq.trans (if_neg c_1) (if_pos c_3)))
  by_cases c_4 : p1 = (4 : Int32)
  · refine lv_tableIn (tgt := 71) (off := 70) hx hb dX0_monthLength_1 (by rw [c_4]; decide) (by rw [c_4]; decide) (by rw [c_4]; decide) (by decide) ?_
    refine lv_bipush (v := (30 : Int32)) hx hb dX0_monthLength_71 qb_30 ?_
    exact re_i hx hb hr hk dX0_monthLength_73 (ei (Eq.trans (if_neg c_1) (Eq.trans (if_neg c_3) (if_pos c_4))))
  by_cases c_5 : p1 = (5 : Int32)
  · refine lv_tableIn (tgt := 74) (off := 73) hx hb dX0_monthLength_1 (by rw [c_5]; decide) (by rw [c_5]; decide) (by rw [c_5]; decide) (by decide) ?_
    refine lv_bipush (v := (31 : Int32)) hx hb dX0_monthLength_74 qb_31 ?_
    exact re_i hx hb hr hk dX0_monthLength_76 (ei (Eq.trans (if_neg c_1) (Eq.trans (if_neg c_3) (Eq.trans (if_neg c_4) (if_pos c_5)))))
  by_cases c_6 : p1 = (6 : Int32)
  · refine lv_tableIn (tgt := 71) (off := 70) hx hb dX0_monthLength_1 (by rw [c_6]; decide) (by rw [c_6]; decide) (by rw [c_6]; decide) (by decide) ?_
    refine lv_bipush (v := (30 : Int32)) hx hb dX0_monthLength_71 qb_30 ?_
    exact re_i hx hb hr hk dX0_monthLength_73 (ei (Eq.trans (if_neg c_1) (Eq.trans (if_neg c_3) (Eq.trans (if_neg c_4) (Eq.trans (if_neg c_5) (if_pos c_6))))))
  by_cases c_7 : p1 = (7 : Int32)
  · refine lv_tableIn (tgt := 74) (off := 73) hx hb dX0_monthLength_1 (by rw [c_7]; decide) (by rw [c_7]; decide) (by rw [c_7]; decide) (by decide) ?_
    refine lv_bipush (v := (31 : Int32)) hx hb dX0_monthLength_74 qb_31 ?_
    exact re_i hx hb hr hk dX0_monthLength_76 (ei (Eq.trans (if_neg c_1) (Eq.trans (if_neg c_3) (Eq.trans (if_neg c_4) (Eq.trans (if_neg c_5) (Eq.trans (if_neg c_6) (if_pos c_7)))))))
  by_cases c_8 : p1 = (8 : Int32)
  · refine lv_tableIn (tgt := 74) (off := 73) hx hb dX0_monthLength_1 (by rw [c_8]; decide) (by rw [c_8]; decide) (by rw [c_8]; decide) (by decide) ?_
    refine lv_bipush (v := (31 : Int32)) hx hb dX0_monthLength_74 qb_31 ?_
    exact re_i hx hb hr hk dX0_monthLength_76 (ei (Eq.trans (if_neg c_1) (Eq.trans (if_neg c_3) (Eq.trans (if_neg c_4) (Eq.trans (if_neg c_5) (Eq.trans (if_neg c_6) (Eq.trans (if_neg c_7) (if_pos c_8))))))))
  by_cases c_9 : p1 = (9 : Int32)
  · refine lv_tableIn (tgt := 71) (off := 70) hx hb dX0_monthLength_1 (by rw [c_9]; decide) (by rw [c_9]; decide) (by rw [c_9]; decide) (by decide) ?_
    refine lv_bipush (v := (30 : Int32)) hx hb dX0_monthLength_71 qb_30 ?_
    exact re_i hx hb hr hk dX0_monthLength_73 (ei (Eq.trans (if_neg c_1) (Eq.trans (if_neg c_3) (Eq.trans (if_neg c_4) (Eq.trans (if_neg c_5) (Eq.trans (if_neg c_6) (Eq.trans (if_neg c_7) (Eq.trans (if_neg c_8) (if_pos c_9)))))))))
  by_cases c_10 : p1 = (10 : Int32)
  · refine lv_tableIn (tgt := 74) (off := 73) hx hb dX0_monthLength_1 (by rw [c_10]; decide) (by rw [c_10]; decide) (by rw [c_10]; decide) (by decide) ?_
    refine lv_bipush (v := (31 : Int32)) hx hb dX0_monthLength_74 qb_31 ?_
    exact re_i hx hb hr hk dX0_monthLength_76 (ei (Eq.trans (if_neg c_1) (Eq.trans (if_neg c_3) (Eq.trans (if_neg c_4) (Eq.trans (if_neg c_5) (Eq.trans (if_neg c_6) (Eq.trans (if_neg c_7) (Eq.trans (if_neg c_8) (Eq.trans (if_neg c_9) (if_pos c_10))))))))))
  by_cases c_11 : p1 = (11 : Int32)
  · refine lv_tableIn (tgt := 71) (off := 70) hx hb dX0_monthLength_1 (by rw [c_11]; decide) (by rw [c_11]; decide) (by rw [c_11]; decide) (by decide) ?_
    refine lv_bipush (v := (30 : Int32)) hx hb dX0_monthLength_71 qb_30 ?_
    exact re_i hx hb hr hk dX0_monthLength_73 (ei (Eq.trans (if_neg c_1) (Eq.trans (if_neg c_3) (Eq.trans (if_neg c_4) (Eq.trans (if_neg c_5) (Eq.trans (if_neg c_6) (Eq.trans (if_neg c_7) (Eq.trans (if_neg c_8) (Eq.trans (if_neg c_9) (Eq.trans (if_neg c_10) (if_pos c_11)))))))))))
  have nc_1 := lv_neT c_1 (a := 2) (by decide)
  have nc_3 := lv_neT c_3 (a := 3) (by decide)
  have nc_4 := lv_neT c_4 (a := 4) (by decide)
  have nc_5 := lv_neT c_5 (a := 5) (by decide)
  have nc_6 := lv_neT c_6 (a := 6) (by decide)
  have nc_7 := lv_neT c_7 (a := 7) (by decide)
  have nc_8 := lv_neT c_8 (a := 8) (by decide)
  have nc_9 := lv_neT c_9 (a := 9) (by decide)
  have nc_10 := lv_neT c_10 (a := 10) (by decide)
  have nc_11 := lv_neT c_11 (a := 11) (by decide)
  refine lv_tableOut (tgt := 74) hx hb dX0_monthLength_1 (by omega) (by decide) ?_
  refine lv_bipush (v := (31 : Int32)) hx hb dX0_monthLength_74 qb_31 ?_
  exact re_i hx hb hr hk dX0_monthLength_76 (ei (Eq.trans (if_neg c_1) (Eq.trans (if_neg c_3) (Eq.trans (if_neg c_4) (Eq.trans (if_neg c_5) (Eq.trans (if_neg c_6) (Eq.trans (if_neg c_7) (Eq.trans (if_neg c_8) (Eq.trans (if_neg c_9) (Eq.trans (if_neg c_10) (if_neg c_11)))))))))))

set_option maxRecDepth 100000 in
set_option maxHeartbeats 4000000 in
theorem c_X0_daysAhead (l : Launch) (G : GT) (p0 : Int32) (p1 : Int32) : RO l G yX0_daysAhead cX0_daysAhead 3 (some .int) 2 [.int p0, .int p1] [] (some (.int (fX0_daysAhead p0 p1))) := by
  refine RO.ofW (own := RX0) rfl (plainFor_of_name pnN_RX0) (Nat.le_of_ble_eq_true rfl) ?_
  intro p e s m below meth c C hr hk hE hP ls hl
  have hx := C.1
  have hb := C.2.1
  have hown := C.2.2.2.1
  have hw := C.2.2.2.2
  have hl : lv_has ls 3 [(0, .int p0), (1, .int p1)] := hl
  refine lv_iload_n hx hb dX0_daysAhead_0 rfl (lv_at hl 1 rfl) ?_
  refine lv_iconst (v := (1 : Int32)) hx hb dX0_daysAhead_1 qi_1 ?_
  refine lv_icmp_lt (tgt := 13) hx hb dX0_daysAhead_2 (by decide) (fun c_1 => ?_) (fun c_1 => ?_)
  · refine lv_iconst (v := (0 : Int32)) hx hb dX0_daysAhead_13 qi_0 ?_
    exact re_i hx hb hr hk dX0_daysAhead_14 (ei (if_pos c_1))
  · refine lv_iload_n hx hb dX0_daysAhead_5 rfl (lv_at hl 1 rfl) ?_
    refine va_gets hx hb hE.2.2.2.2.1 va_S.rf hown (hw _ bw173) (fun _ h9 => h9) dX0_daysAhead_6 ?_
    refine va_tlen (v := 12) hx hb hE.2.2.2.2.2.1 va_S.rf (by decide) dX0_daysAhead_9 ?_
    refine lv_icmp_le (tgt := 15) hx hb dX0_daysAhead_10 (by decide) (fun c_2 => ?_) (fun c_2 => ?_)
    · refine va_gets hx hb hE.2.2.2.2.1 va_S.rf hown (hw _ bw173) (fun _ h9 => h9) dX0_daysAhead_15 ?_
      refine lv_iload_n hx hb dX0_daysAhead_18 rfl (lv_at hl 1 rfl) ?_
      refine lv_iconst (v := (1 : Int32)) hx hb dX0_daysAhead_19 qi_1 ?_
      refine lv_isub hx hb dX0_daysAhead_20 ?_
      refine va_ti hx hb hE.2.2.2.2.2.1 va_S.rf (vp_da c_1 c_2) rfl dX0_daysAhead_21 ?_
      refine lv_istore_n (lv' := [(2, .int (tDA (p1 - (1 : Int32)).toNatClampNeg)), (0, .int p0), (1, .int p1)]) hx hb dX0_daysAhead_22 rfl hl (Nat.le_of_ble_eq_true rfl) rfl (fun ls hl => ?_)
      refine lv_iload_n hx hb dX0_daysAhead_23 rfl (lv_at hl 2 rfl) ?_
      refine lv_iconst (v := (2 : Int32)) hx hb dX0_daysAhead_24 qi_2 ?_
      refine lv_icmp_le (tgt := 41) hx hb dX0_daysAhead_25 (by decide) (fun c_3 => ?_) (fun c_3 => ?_)
      · refine lv_iload_n hx hb dX0_daysAhead_41 rfl (lv_at hl 0 rfl) ?_
        exact re_i hx hb hr hk dX0_daysAhead_42 (ei (Eq.trans (if_neg c_1) (Eq.trans (if_pos c_2) (if_pos c_3))))
      · refine lv_iload_n hx hb dX0_daysAhead_28 rfl (lv_at hl 1 rfl) ?_
        refine rcSi (as := [.int p0]) (rest := []) C (c_X0_isLeapYear l G p0) F_X0_isLeapYear rfl bw175 bw176 hE vpn hl.1 dX0_daysAhead_29 ⟨Nat.le_of_ble_eq_true rfl, Nat.le_of_ble_eq_true rfl⟩ rfl (Nat.le_of_ble_eq_true rfl) ⟨Nat.zero_le _, Nat.zero_le _⟩ ?_
        refine lv_if_eq (tgt := 41) hx hb dX0_daysAhead_32 (by decide) (fun c_4 => ?_) (fun c_4 => ?_)
        · refine lv_iload_n hx hb dX0_daysAhead_41 rfl (lv_at hl 0 rfl) ?_
          exact re_i hx hb hr hk dX0_daysAhead_42 (ei (Eq.trans (if_neg c_1) (Eq.trans (if_pos c_2) (Eq.trans (if_neg c_3) (if_pos c_4)))))
        · refine lv_iload_n hx hb dX0_daysAhead_35 rfl (lv_at hl 0 rfl) ?_
          refine lv_iconst (v := (1 : Int32)) hx hb dX0_daysAhead_36 qi_1 ?_
          refine lv_iadd hx hb dX0_daysAhead_37 ?_
          refine lv_goto (tgt := 42) hx hb dX0_daysAhead_38 (by decide) ?_
          exact re_i hx hb hr hk dX0_daysAhead_42 (ei (Eq.trans (if_neg c_1) (Eq.trans (if_pos c_2) (Eq.trans (if_neg c_3) (if_neg c_4)))))
    · refine lv_iconst (v := (0 : Int32)) hx hb dX0_daysAhead_13 qi_0 ?_
      exact re_i hx hb hr hk dX0_daysAhead_14 (ei (Eq.trans (if_neg c_1) (if_neg c_2)))

set_option maxRecDepth 100000 in
set_option maxHeartbeats 4000000 in
theorem c_X0_firstDayOf (l : Launch) (G : GT) (p0 : Int32) : RO l G yX0_firstDayOf cX0_firstDayOf 3 (some .long) 2 [.int p0] [] (some (.long (fX0_firstDayOf p0))) := by
  refine RO.ofW (own := RX0) rfl (plainFor_of_name pnN_RX0) (Nat.le_of_ble_eq_true rfl) ?_
  intro p e s m below meth c C hr hk hE hP ls hl
  have hx := C.1
  have hb := C.2.1
  have hown := C.2.2.2.1
  have hw := C.2.2.2.2
  have hl : lv_has ls 3 [(0, .int p0)] := hl
  refine lv_iload_n hx hb dX0_firstDayOf_0 rfl (lv_at hl 0 rfl) ?_
  refine lv_iconst (v := (3 : Int32)) hx hb dX0_firstDayOf_1 qi_3 ?_
  refine lv_iadd hx hb dX0_firstDayOf_2 ?_
  refine lv_iconst (v := (4 : Int32)) hx hb dX0_firstDayOf_3 qi_4 ?_
  refine rcSi (as := [.int (p0 + (3 : Int32)), .int (4 : Int32)]) (rest := []) C (c_J9_floorDiv_7cf53 l G (p0 + (3 : Int32)) (4 : Int32) (by decide)) F_J9_floorDiv_7cf53 rfl bw89 bw90 hE vpn hl.1 dX0_firstDayOf_4 ⟨Nat.le_of_ble_eq_true rfl, Nat.le_of_ble_eq_true rfl⟩ rfl (Nat.le_of_ble_eq_true rfl) ⟨Nat.zero_le _, Nat.zero_le _⟩ ?_
  refine lv_iload_n hx hb dX0_firstDayOf_7 rfl (lv_at hl 0 rfl) ?_
  refine lv_bipush (v := (99 : Int32)) hx hb dX0_firstDayOf_8 qb_99 ?_
  refine lv_iadd hx hb dX0_firstDayOf_10 ?_
  refine lv_bipush (v := (100 : Int32)) hx hb dX0_firstDayOf_11 qb_100 ?_
  refine rcSi (as := [.int (p0 + (99 : Int32)), .int (100 : Int32)]) (rest := [.int (fJ9_floorDiv_7cf53 (p0 + (3 : Int32)) (4 : Int32))]) C (c_J9_floorDiv_7cf53 l G (p0 + (99 : Int32)) (100 : Int32) (by decide)) F_J9_floorDiv_7cf53 rfl bw89 bw90 hE vpn hl.1 dX0_firstDayOf_13 ⟨Nat.le_of_ble_eq_true rfl, Nat.le_of_ble_eq_true rfl⟩ rfl (Nat.le_of_ble_eq_true rfl) ⟨Nat.zero_le _, Nat.zero_le _⟩ ?_
  refine lv_isub hx hb dX0_firstDayOf_16 ?_
  refine lv_iload_n hx hb dX0_firstDayOf_17 rfl (lv_at hl 0 rfl) ?_
  refine lv_sipush (v := (399 : Int32)) hx hb dX0_firstDayOf_18 qs_399 ?_
  refine lv_iadd hx hb dX0_firstDayOf_21 ?_
  refine lv_sipush (v := (400 : Int32)) hx hb dX0_firstDayOf_22 qs_400 ?_
  refine rcSi (as := [.int (p0 + (399 : Int32)), .int (400 : Int32)]) (rest := [.int ((fJ9_floorDiv_7cf53 (p0 + (3 : Int32)) (4 : Int32)) - (fJ9_floorDiv_7cf53 (p0 + (99 : Int32)) (100 : Int32)))]) C (c_J9_floorDiv_7cf53 l G (p0 + (399 : Int32)) (400 : Int32) (by decide)) F_J9_floorDiv_7cf53 rfl bw89 bw90 hE vpn hl.1 dX0_firstDayOf_25 ⟨Nat.le_of_ble_eq_true rfl, Nat.le_of_ble_eq_true rfl⟩ rfl (Nat.le_of_ble_eq_true rfl) ⟨Nat.zero_le _, Nat.zero_le _⟩ ?_
  refine lv_iadd hx hb dX0_firstDayOf_28 ?_
  refine lv_i2l (v := ((((fJ9_floorDiv_7cf53 (p0 + (3 : Int32)) (4 : Int32)) - (fJ9_floorDiv_7cf53 (p0 + (99 : Int32)) (100 : Int32))) + (fJ9_floorDiv_7cf53 (p0 + (399 : Int32)) (400 : Int32))).toInt64)) hx hb dX0_firstDayOf_29 (by first | rfl | decide) ?_
  refine lv_lstore_n (lv' := [(1, .long ((((fJ9_floorDiv_7cf53 (p0 + (3 : Int32)) (4 : Int32)) - (fJ9_floorDiv_7cf53 (p0 + (99 : Int32)) (100 : Int32))) + (fJ9_floorDiv_7cf53 (p0 + (399 : Int32)) (400 : Int32))).toInt64)), (0, .int p0)]) hx hb dX0_firstDayOf_30 rfl hl (Nat.le_of_ble_eq_true rfl) rfl (fun ls hl => ?_)
  refine lv_ldc2 (v := (365 : Int64)) hx hb hown (hw _ bw92) dX0_firstDayOf_31 ?_
  refine lv_iload_n hx hb dX0_firstDayOf_34 rfl (lv_at hl 1 rfl) ?_
  refine lv_i2l (v := (p0.toInt64)) hx hb dX0_firstDayOf_35 (by first | rfl | decide) ?_
  refine lv_lmul hx hb dX0_firstDayOf_36 ?_
  refine lv_lload_n hx hb dX0_firstDayOf_37 rfl (lv_at hl 0 rfl) ?_
  refine lv_ladd hx hb dX0_firstDayOf_38 ?_
  refine lv_ldc2 (v := (719528 : Int64)) hx hb hown (hw _ bw93) dX0_firstDayOf_39 ?_
  refine lv_lsub hx hb dX0_firstDayOf_42 ?_
  exact re_l hx hb hr hk dX0_firstDayOf_43 (el rfl)

set_option maxRecDepth 100000 in
set_option maxHeartbeats 4000000 in
theorem c_X0_dayOf (l : Launch) (G : GT) (p0 : Int32) (p1 : Int32) (p2 : Int32) : RO l G yX0_dayOf cX0_dayOf 3 (some .long) 3 [.int p0, .int p1, .int p2] [] (some (.long (fX0_dayOf p0 p1 p2))) := by
  refine RO.ofW (own := RX0) rfl (plainFor_of_name pnN_RX0) (Nat.le_of_ble_eq_true rfl) ?_
  intro p e s m below meth c C hr hk hE hP ls hl
  have hx := C.1
  have hb := C.2.1
  have hown := C.2.2.2.1
  have hw := C.2.2.2.2
  have hl : lv_has ls 3 [(0, .int p0), (1, .int p1), (2, .int p2)] := hl
  refine lv_iload_n hx hb dX0_dayOf_0 rfl (lv_at hl 0 rfl) ?_
  refine rcSl (as := [.int p0]) (rest := []) C (c_X0_firstDayOf l G p0) F_X0_firstDayOf rfl bw86 bw87 hE vpn hl.1 dX0_dayOf_1 ⟨Nat.le_of_ble_eq_true rfl, Nat.le_of_ble_eq_true rfl⟩ rfl (Nat.le_of_ble_eq_true rfl) ⟨Nat.zero_le _, Nat.zero_le _⟩ ?_
  refine lv_iload_n hx hb dX0_dayOf_4 rfl (lv_at hl 0 rfl) ?_
  refine lv_iload_n hx hb dX0_dayOf_5 rfl (lv_at hl 1 rfl) ?_
  refine rcSi (as := [.int p0, .int p1]) (rest := [.long (fX0_firstDayOf p0)]) C (c_X0_daysAhead l G p0 p1) F_X0_daysAhead rfl bw170 bw171 hE vpn hl.1 dX0_dayOf_6 ⟨Nat.le_of_ble_eq_true rfl, Nat.le_of_ble_eq_true rfl⟩ rfl (Nat.le_of_ble_eq_true rfl) ⟨Nat.zero_le _, Nat.zero_le _⟩ ?_
  refine lv_i2l (v := ((fX0_daysAhead p0 p1).toInt64)) hx hb dX0_dayOf_9 (by first | rfl | decide) ?_
  refine lv_ladd hx hb dX0_dayOf_10 ?_
  refine lv_iload_n hx hb dX0_dayOf_11 rfl (lv_at hl 2 rfl) ?_
  refine lv_i2l (v := (p2.toInt64)) hx hb dX0_dayOf_12 (by first | rfl | decide) ?_
  refine lv_ladd hx hb dX0_dayOf_13 ?_
  refine lv_lconst (v := (1 : Int64)) hx hb dX0_dayOf_14 ql_1 ?_
  refine lv_lsub hx hb dX0_dayOf_15 ?_
  exact re_l hx hb hr hk dX0_dayOf_16 (el rfl)

set_option maxRecDepth 100000 in
set_option maxHeartbeats 4000000 in
theorem c_X0_yearOf (l : Launch) (G : GT) (p0 : Int64) : RO l G yX0_yearOf cX0_yearOf 3 (some .int) 3 [.long p0] [] (some (.int (fX0_yearOf p0))) := by
  refine RO.ofW (own := RX0) rfl (plainFor_of_name pnN_RX0) (Nat.le_of_ble_eq_true rfl) ?_
  intro p e s m below meth c C hr hk hE hP ls hl
  have hx := C.1
  have hb := C.2.1
  have hown := C.2.2.2.1
  have hw := C.2.2.2.2
  have hl : lv_has ls 3 [(0, .long p0)] := hl
  refine lv_lload_n hx hb dX0_yearOf_0 rfl (lv_at hl 0 rfl) ?_
  refine lv_ldc2 (v := (719528 : Int64)) hx hb hown (hw _ bw93) dX0_yearOf_1 ?_
  refine lv_ladd hx hb dX0_yearOf_4 ?_
  refine lv_ldc2 (v := (400 : Int64)) hx hb hown (hw _ bw435) dX0_yearOf_5 ?_
  refine lv_lmul hx hb dX0_yearOf_8 ?_
  refine lv_ldc2 (v := (146097 : Int64)) hx hb hown (hw _ bw216) dX0_yearOf_9 ?_
  refine rcSl (as := [.long ((p0 + (719528 : Int64)) * (400 : Int64)), .long (146097 : Int64)]) (rest := []) C (c_J9_floorDiv_f86c9 l G ((p0 + (719528 : Int64)) * (400 : Int64)) (146097 : Int64) (by decide)) F_J9_floorDiv_f86c9 rfl bw191 bw192 hE vpn hl.1 dX0_yearOf_12 ⟨Nat.le_of_ble_eq_true rfl, Nat.le_of_ble_eq_true rfl⟩ rfl (Nat.le_of_ble_eq_true rfl) ⟨Nat.zero_le _, Nat.zero_le _⟩ ?_
  refine lv_l2i (v := ((fJ9_floorDiv_f86c9 ((p0 + (719528 : Int64)) * (400 : Int64)) (146097 : Int64)).toInt32)) hx hb dX0_yearOf_15 (by first | rfl | decide) ?_
  refine lv_istore_n (lv' := [(2, .int ((fJ9_floorDiv_f86c9 ((p0 + (719528 : Int64)) * (400 : Int64)) (146097 : Int64)).toInt32)), (0, .long p0)]) hx hb dX0_yearOf_16 rfl hl (Nat.le_of_ble_eq_true rfl) rfl (fun ls hl => ?_)
  refine lv_lload_n hx hb dX0_yearOf_17 rfl (lv_at hl 1 rfl) ?_
  refine lv_iload_n hx hb dX0_yearOf_18 rfl (lv_at hl 0 rfl) ?_
  refine rcSl (as := [.int ((fJ9_floorDiv_f86c9 ((p0 + (719528 : Int64)) * (400 : Int64)) (146097 : Int64)).toInt32)]) (rest := [.long p0]) C (c_X0_firstDayOf l G ((fJ9_floorDiv_f86c9 ((p0 + (719528 : Int64)) * (400 : Int64)) (146097 : Int64)).toInt32)) F_X0_firstDayOf rfl bw86 bw87 hE vpn hl.1 dX0_yearOf_19 ⟨Nat.le_of_ble_eq_true rfl, Nat.le_of_ble_eq_true rfl⟩ rfl (Nat.le_of_ble_eq_true rfl) ⟨Nat.zero_le _, Nat.zero_le _⟩ ?_
  refine W.lcmp hx hb dX0_yearOf_22 ?_
  refine lv_if_ge (tgt := 30) hx hb dX0_yearOf_23 (by decide) (fun c_1 => ?_) (fun c_1 => ?_)
  · refine lv_lload_n hx hb dX0_yearOf_30 rfl (lv_at hl 1 rfl) ?_
    refine lv_iload_n hx hb dX0_yearOf_31 rfl (lv_at hl 0 rfl) ?_
    refine lv_iconst (v := (1 : Int32)) hx hb dX0_yearOf_32 qi_1 ?_
    refine lv_iadd hx hb dX0_yearOf_33 ?_
    refine rcSl (as := [.int (((fJ9_floorDiv_f86c9 ((p0 + (719528 : Int64)) * (400 : Int64)) (146097 : Int64)).toInt32) + (1 : Int32))]) (rest := [.long p0]) C (c_X0_firstDayOf l G (((fJ9_floorDiv_f86c9 ((p0 + (719528 : Int64)) * (400 : Int64)) (146097 : Int64)).toInt32) + (1 : Int32))) F_X0_firstDayOf rfl bw86 bw87 hE vpn hl.1 dX0_yearOf_34 ⟨Nat.le_of_ble_eq_true rfl, Nat.le_of_ble_eq_true rfl⟩ rfl (Nat.le_of_ble_eq_true rfl) ⟨Nat.zero_le _, Nat.zero_le _⟩ ?_
    refine W.lcmp hx hb dX0_yearOf_37 ?_
    refine lv_if_ge (tgt := 45) hx hb dX0_yearOf_38 (by decide) (fun c_2 => ?_) (fun c_2 => ?_)
    · refine lv_iload_n hx hb dX0_yearOf_45 rfl (lv_at hl 0 rfl) ?_
      refine lv_iconst (v := (1 : Int32)) hx hb dX0_yearOf_46 qi_1 ?_
      refine lv_iadd hx hb dX0_yearOf_47 ?_
      exact re_i hx hb hr hk dX0_yearOf_48 (ei (Eq.trans (if_pos c_1) (if_pos c_2)))
    · refine lv_iload_n hx hb dX0_yearOf_41 rfl (lv_at hl 0 rfl) ?_
      refine lv_goto (tgt := 48) hx hb dX0_yearOf_42 (by decide) ?_
      exact re_i hx hb hr hk dX0_yearOf_48 (ei (Eq.trans (if_pos c_1) (if_neg c_2)))
  · refine lv_iload_n hx hb dX0_yearOf_26 rfl (lv_at hl 0 rfl) ?_
    refine lv_iconst (v := (1 : Int32)) hx hb dX0_yearOf_27 qi_1 ?_
    refine lv_isub hx hb dX0_yearOf_28 ?_
    exact re_i hx hb hr hk dX0_yearOf_29 (ei (if_neg c_1))

set_option maxRecDepth 100000 in
set_option maxHeartbeats 4000000 in
theorem c_X0_weekday (l : Launch) (G : GT) (p0 : Int64) : RO l G yX0_weekday cX0_weekday 2 (some .int) 2 [.long p0] [] (some (.int (fX0_weekday p0))) := by
  refine RO.ofW (own := RX0) rfl (plainFor_of_name pnN_RX0) (Nat.le_of_ble_eq_true rfl) ?_
  intro p e s m below meth c C hr hk hE hP ls hl
  have hx := C.1
  have hb := C.2.1
  have hown := C.2.2.2.1
  have hw := C.2.2.2.2
  have hl : lv_has ls 2 [(0, .long p0)] := hl
  refine lv_lload_n hx hb dX0_weekday_0 rfl (lv_at hl 0 rfl) ?_
  refine lv_ldc2 (v := (3 : Int64)) hx hb hown (hw _ bw265) dX0_weekday_1 ?_
  refine lv_ladd hx hb dX0_weekday_4 ?_
  refine lv_ldc2 (v := (7 : Int64)) hx hb hown (hw _ bw248) dX0_weekday_5 ?_
  refine rcSl (as := [.long (p0 + (3 : Int64)), .long (7 : Int64)]) (rest := []) C (c_J9_floorMod_f86c9 l G (p0 + (3 : Int64)) (7 : Int64) (by decide)) F_J9_floorMod_f86c9 rfl bw195 bw196 hE vpn hl.1 dX0_weekday_8 ⟨Nat.le_of_ble_eq_true rfl, Nat.le_of_ble_eq_true rfl⟩ rfl (Nat.le_of_ble_eq_true rfl) ⟨Nat.zero_le _, Nat.zero_le _⟩ ?_
  refine lv_l2i (v := ((fJ9_floorMod_f86c9 (p0 + (3 : Int64)) (7 : Int64)).toInt32)) hx hb dX0_weekday_11 (by first | rfl | decide) ?_
  refine lv_iconst (v := (1 : Int32)) hx hb dX0_weekday_12 qi_1 ?_
  refine lv_iadd hx hb dX0_weekday_13 ?_
  exact re_i hx hb hr hk dX0_weekday_14 (ei rfl)

set_option maxRecDepth 100000 in
set_option maxHeartbeats 4000000 in
theorem c_X0_timeOf (l : Launch) (G : GT) (p0 : Int32) (p1 : Int32) (p2 : Int32) (p3 : Int32) : RO l G yX0_timeOf cX0_timeOf 4 (some .long) 1 [.int p0, .int p1, .int p2, .int p3] [] (some (.long (fX0_timeOf p0 p1 p2 p3))) := by
  refine RO.ofW (own := RX0) rfl (plainFor_of_name pnN_RX0) (Nat.le_of_ble_eq_true rfl) ?_
  intro p e s m below meth c C hr hk hE hP ls hl
  have hx := C.1
  have hb := C.2.1
  have hown := C.2.2.2.1
  have hw := C.2.2.2.2
  have hl : lv_has ls 4 [(0, .int p0), (1, .int p1), (2, .int p2), (3, .int p3)] := hl
  refine lv_iload_n hx hb dX0_timeOf_0 rfl (lv_at hl 0 rfl) ?_
  refine lv_i2l (v := (p0.toInt64)) hx hb dX0_timeOf_1 (by first | rfl | decide) ?_
  refine lv_ldc2 (v := (3600000000000 : Int64)) hx hb hown (hw _ bw152) dX0_timeOf_2 ?_
  refine lv_lmul hx hb dX0_timeOf_5 ?_
  refine lv_iload_n hx hb dX0_timeOf_6 rfl (lv_at hl 1 rfl) ?_
  refine lv_i2l (v := (p1.toInt64)) hx hb dX0_timeOf_7 (by first | rfl | decide) ?_
  refine lv_ldc2 (v := (60000000000 : Int64)) hx hb hown (hw _ bw156) dX0_timeOf_8 ?_
  refine lv_lmul hx hb dX0_timeOf_11 ?_
  refine lv_ladd hx hb dX0_timeOf_12 ?_
  refine lv_iload_n hx hb dX0_timeOf_13 rfl (lv_at hl 2 rfl) ?_
  refine lv_i2l (v := (p2.toInt64)) hx hb dX0_timeOf_14 (by first | rfl | decide) ?_
  refine lv_ldc2 (v := (1000000000 : Int64)) hx hb hown (hw _ bw160) dX0_timeOf_15 ?_
  refine lv_lmul hx hb dX0_timeOf_18 ?_
  refine lv_ladd hx hb dX0_timeOf_19 ?_
  refine lv_iload_n hx hb dX0_timeOf_20 rfl (lv_at hl 3 rfl) ?_
  refine lv_i2l (v := (p3.toInt64)) hx hb dX0_timeOf_21 (by first | rfl | decide) ?_
  refine lv_ladd hx hb dX0_timeOf_22 ?_
  exact re_l hx hb hr hk dX0_timeOf_23 (el rfl)

set_option maxRecDepth 100000 in
set_option maxHeartbeats 4000000 in
theorem c_X0_monthOf (l : Launch) (G : GT) (p0 : Int32) (p1 : Int32) : RO l G yX0_monthOf cX0_monthOf 3 (some .int) 3 [.int p0, .int p1] [] (some (.int (fX0_monthOf p0 p1))) := by
  refine RO.ofW (own := RX0) rfl (plainFor_of_name pnN_RX0) (Nat.le_of_ble_eq_true rfl) ?_
  intro p e s m below meth c C hr hk hE hP ls hl
  have hx := C.1
  have hb := C.2.1
  have hown := C.2.2.2.1
  have hw := C.2.2.2.2
  have hl : lv_has ls 3 [(0, .int p0), (1, .int p1)] := hl
  refine lv_bipush (v := (12 : Int32)) hx hb dX0_monthOf_0 qb_12 ?_
  refine lv_istore_n (lv' := [(2, .int (12 : Int32)), (0, .int p0), (1, .int p1)]) hx hb dX0_monthOf_2 rfl hl (Nat.le_of_ble_eq_true rfl) rfl (fun ls hl => ?_)
  refine lv_iload_n hx hb dX0_monthOf_3 rfl (lv_at hl 0 rfl) ?_
  refine lv_iconst (v := (1 : Int32)) hx hb dX0_monthOf_4 qi_1 ?_
  refine lv_icmp_le (tgt := 25) hx hb dX0_monthOf_5 (by decide) (fun c_x => absurd c_x (by decide)) (fun _ => ?_)
  refine lv_iload_n hx hb dX0_monthOf_8 rfl (lv_at hl 2 rfl) ?_
  refine lv_iload_n hx hb dX0_monthOf_9 rfl (lv_at hl 1 rfl) ?_
  refine lv_iload_n hx hb dX0_monthOf_10 rfl (lv_at hl 0 rfl) ?_
  refine rcSi (as := [.int p0, .int (12 : Int32)]) (rest := [.int p1]) C (c_X0_daysAhead l G p0 (12 : Int32)) F_X0_daysAhead rfl bw170 bw171 hE vpn hl.1 dX0_monthOf_11 ⟨Nat.le_of_ble_eq_true rfl, Nat.le_of_ble_eq_true rfl⟩ rfl (Nat.le_of_ble_eq_true rfl) ⟨Nat.zero_le _, Nat.zero_le _⟩ ?_
  refine lv_icmp_le (tgt := 19) hx hb dX0_monthOf_14 (by decide) (fun c_1 => ?_) (fun c_1 => ?_)
  · refine lv_iinc (v := (11 : Int32)) (lv' := [(2, .int (11 : Int32)), (0, .int p0), (1, .int p1)]) hx hb dX0_monthOf_19 hl (k := 0) rfl (by first | rfl | decide) (Nat.le_of_ble_eq_true rfl) rfl (fun ls hl => ?_)
    refine lv_goto (tgt := 3) hx hb dX0_monthOf_22 (by decide) ?_
    refine lv_iload_n hx hb dX0_monthOf_3 rfl (lv_at hl 0 rfl) ?_
    refine lv_iconst (v := (1 : Int32)) hx hb dX0_monthOf_4 qi_1 ?_
    refine lv_icmp_le (tgt := 25) hx hb dX0_monthOf_5 (by decide) (fun c_x => absurd c_x (by decide)) (fun _ => ?_)
    refine lv_iload_n hx hb dX0_monthOf_8 rfl (lv_at hl 2 rfl) ?_
    refine lv_iload_n hx hb dX0_monthOf_9 rfl (lv_at hl 1 rfl) ?_
    refine lv_iload_n hx hb dX0_monthOf_10 rfl (lv_at hl 0 rfl) ?_
    refine rcSi (as := [.int p0, .int (11 : Int32)]) (rest := [.int p1]) C (c_X0_daysAhead l G p0 (11 : Int32)) F_X0_daysAhead rfl bw170 bw171 hE vpn hl.1 dX0_monthOf_11 ⟨Nat.le_of_ble_eq_true rfl, Nat.le_of_ble_eq_true rfl⟩ rfl (Nat.le_of_ble_eq_true rfl) ⟨Nat.zero_le _, Nat.zero_le _⟩ ?_
    refine lv_icmp_le (tgt := 19) hx hb dX0_monthOf_14 (by decide) (fun c_2 => ?_) (fun c_2 => ?_)
    · refine lv_iinc (v := (10 : Int32)) (lv' := [(2, .int (10 : Int32)), (0, .int p0), (1, .int p1)]) hx hb dX0_monthOf_19 hl (k := 0) rfl (by first | rfl | decide) (Nat.le_of_ble_eq_true rfl) rfl (fun ls hl => ?_)
      refine lv_goto (tgt := 3) hx hb dX0_monthOf_22 (by decide) ?_
      refine lv_iload_n hx hb dX0_monthOf_3 rfl (lv_at hl 0 rfl) ?_
      refine lv_iconst (v := (1 : Int32)) hx hb dX0_monthOf_4 qi_1 ?_
      refine lv_icmp_le (tgt := 25) hx hb dX0_monthOf_5 (by decide) (fun c_x => absurd c_x (by decide)) (fun _ => ?_)
      refine lv_iload_n hx hb dX0_monthOf_8 rfl (lv_at hl 2 rfl) ?_
      refine lv_iload_n hx hb dX0_monthOf_9 rfl (lv_at hl 1 rfl) ?_
      refine lv_iload_n hx hb dX0_monthOf_10 rfl (lv_at hl 0 rfl) ?_
      refine rcSi (as := [.int p0, .int (10 : Int32)]) (rest := [.int p1]) C (c_X0_daysAhead l G p0 (10 : Int32)) F_X0_daysAhead rfl bw170 bw171 hE vpn hl.1 dX0_monthOf_11 ⟨Nat.le_of_ble_eq_true rfl, Nat.le_of_ble_eq_true rfl⟩ rfl (Nat.le_of_ble_eq_true rfl) ⟨Nat.zero_le _, Nat.zero_le _⟩ ?_
      refine lv_icmp_le (tgt := 19) hx hb dX0_monthOf_14 (by decide) (fun c_3 => ?_) (fun c_3 => ?_)
      · refine lv_iinc (v := (9 : Int32)) (lv' := [(2, .int (9 : Int32)), (0, .int p0), (1, .int p1)]) hx hb dX0_monthOf_19 hl (k := 0) rfl (by first | rfl | decide) (Nat.le_of_ble_eq_true rfl) rfl (fun ls hl => ?_)
        refine lv_goto (tgt := 3) hx hb dX0_monthOf_22 (by decide) ?_
        refine lv_iload_n hx hb dX0_monthOf_3 rfl (lv_at hl 0 rfl) ?_
        refine lv_iconst (v := (1 : Int32)) hx hb dX0_monthOf_4 qi_1 ?_
        refine lv_icmp_le (tgt := 25) hx hb dX0_monthOf_5 (by decide) (fun c_x => absurd c_x (by decide)) (fun _ => ?_)
        refine lv_iload_n hx hb dX0_monthOf_8 rfl (lv_at hl 2 rfl) ?_
        refine lv_iload_n hx hb dX0_monthOf_9 rfl (lv_at hl 1 rfl) ?_
        refine lv_iload_n hx hb dX0_monthOf_10 rfl (lv_at hl 0 rfl) ?_
        refine rcSi (as := [.int p0, .int (9 : Int32)]) (rest := [.int p1]) C (c_X0_daysAhead l G p0 (9 : Int32)) F_X0_daysAhead rfl bw170 bw171 hE vpn hl.1 dX0_monthOf_11 ⟨Nat.le_of_ble_eq_true rfl, Nat.le_of_ble_eq_true rfl⟩ rfl (Nat.le_of_ble_eq_true rfl) ⟨Nat.zero_le _, Nat.zero_le _⟩ ?_
        refine lv_icmp_le (tgt := 19) hx hb dX0_monthOf_14 (by decide) (fun c_4 => ?_) (fun c_4 => ?_)
        · refine lv_iinc (v := (8 : Int32)) (lv' := [(2, .int (8 : Int32)), (0, .int p0), (1, .int p1)]) hx hb dX0_monthOf_19 hl (k := 0) rfl (by first | rfl | decide) (Nat.le_of_ble_eq_true rfl) rfl (fun ls hl => ?_)
          refine lv_goto (tgt := 3) hx hb dX0_monthOf_22 (by decide) ?_
          refine lv_iload_n hx hb dX0_monthOf_3 rfl (lv_at hl 0 rfl) ?_
          refine lv_iconst (v := (1 : Int32)) hx hb dX0_monthOf_4 qi_1 ?_
          refine lv_icmp_le (tgt := 25) hx hb dX0_monthOf_5 (by decide) (fun c_x => absurd c_x (by decide)) (fun _ => ?_)
          refine lv_iload_n hx hb dX0_monthOf_8 rfl (lv_at hl 2 rfl) ?_
          refine lv_iload_n hx hb dX0_monthOf_9 rfl (lv_at hl 1 rfl) ?_
          refine lv_iload_n hx hb dX0_monthOf_10 rfl (lv_at hl 0 rfl) ?_
          refine rcSi (as := [.int p0, .int (8 : Int32)]) (rest := [.int p1]) C (c_X0_daysAhead l G p0 (8 : Int32)) F_X0_daysAhead rfl bw170 bw171 hE vpn hl.1 dX0_monthOf_11 ⟨Nat.le_of_ble_eq_true rfl, Nat.le_of_ble_eq_true rfl⟩ rfl (Nat.le_of_ble_eq_true rfl) ⟨Nat.zero_le _, Nat.zero_le _⟩ ?_
          refine lv_icmp_le (tgt := 19) hx hb dX0_monthOf_14 (by decide) (fun c_5 => ?_) (fun c_5 => ?_)
          · refine lv_iinc (v := (7 : Int32)) (lv' := [(2, .int (7 : Int32)), (0, .int p0), (1, .int p1)]) hx hb dX0_monthOf_19 hl (k := 0) rfl (by first | rfl | decide) (Nat.le_of_ble_eq_true rfl) rfl (fun ls hl => ?_)
            refine lv_goto (tgt := 3) hx hb dX0_monthOf_22 (by decide) ?_
            refine lv_iload_n hx hb dX0_monthOf_3 rfl (lv_at hl 0 rfl) ?_
            refine lv_iconst (v := (1 : Int32)) hx hb dX0_monthOf_4 qi_1 ?_
            refine lv_icmp_le (tgt := 25) hx hb dX0_monthOf_5 (by decide) (fun c_x => absurd c_x (by decide)) (fun _ => ?_)
            refine lv_iload_n hx hb dX0_monthOf_8 rfl (lv_at hl 2 rfl) ?_
            refine lv_iload_n hx hb dX0_monthOf_9 rfl (lv_at hl 1 rfl) ?_
            refine lv_iload_n hx hb dX0_monthOf_10 rfl (lv_at hl 0 rfl) ?_
            refine rcSi (as := [.int p0, .int (7 : Int32)]) (rest := [.int p1]) C (c_X0_daysAhead l G p0 (7 : Int32)) F_X0_daysAhead rfl bw170 bw171 hE vpn hl.1 dX0_monthOf_11 ⟨Nat.le_of_ble_eq_true rfl, Nat.le_of_ble_eq_true rfl⟩ rfl (Nat.le_of_ble_eq_true rfl) ⟨Nat.zero_le _, Nat.zero_le _⟩ ?_
            refine lv_icmp_le (tgt := 19) hx hb dX0_monthOf_14 (by decide) (fun c_6 => ?_) (fun c_6 => ?_)
            · refine lv_iinc (v := (6 : Int32)) (lv' := [(2, .int (6 : Int32)), (0, .int p0), (1, .int p1)]) hx hb dX0_monthOf_19 hl (k := 0) rfl (by first | rfl | decide) (Nat.le_of_ble_eq_true rfl) rfl (fun ls hl => ?_)
              refine lv_goto (tgt := 3) hx hb dX0_monthOf_22 (by decide) ?_
              refine lv_iload_n hx hb dX0_monthOf_3 rfl (lv_at hl 0 rfl) ?_
              refine lv_iconst (v := (1 : Int32)) hx hb dX0_monthOf_4 qi_1 ?_
              refine lv_icmp_le (tgt := 25) hx hb dX0_monthOf_5 (by decide) (fun c_x => absurd c_x (by decide)) (fun _ => ?_)
              refine lv_iload_n hx hb dX0_monthOf_8 rfl (lv_at hl 2 rfl) ?_
              refine lv_iload_n hx hb dX0_monthOf_9 rfl (lv_at hl 1 rfl) ?_
              refine lv_iload_n hx hb dX0_monthOf_10 rfl (lv_at hl 0 rfl) ?_
              refine rcSi (as := [.int p0, .int (6 : Int32)]) (rest := [.int p1]) C (c_X0_daysAhead l G p0 (6 : Int32)) F_X0_daysAhead rfl bw170 bw171 hE vpn hl.1 dX0_monthOf_11 ⟨Nat.le_of_ble_eq_true rfl, Nat.le_of_ble_eq_true rfl⟩ rfl (Nat.le_of_ble_eq_true rfl) ⟨Nat.zero_le _, Nat.zero_le _⟩ ?_
              refine lv_icmp_le (tgt := 19) hx hb dX0_monthOf_14 (by decide) (fun c_7 => ?_) (fun c_7 => ?_)
              · refine lv_iinc (v := (5 : Int32)) (lv' := [(2, .int (5 : Int32)), (0, .int p0), (1, .int p1)]) hx hb dX0_monthOf_19 hl (k := 0) rfl (by first | rfl | decide) (Nat.le_of_ble_eq_true rfl) rfl (fun ls hl => ?_)
                refine lv_goto (tgt := 3) hx hb dX0_monthOf_22 (by decide) ?_
                refine lv_iload_n hx hb dX0_monthOf_3 rfl (lv_at hl 0 rfl) ?_
                refine lv_iconst (v := (1 : Int32)) hx hb dX0_monthOf_4 qi_1 ?_
                refine lv_icmp_le (tgt := 25) hx hb dX0_monthOf_5 (by decide) (fun c_x => absurd c_x (by decide)) (fun _ => ?_)
                refine lv_iload_n hx hb dX0_monthOf_8 rfl (lv_at hl 2 rfl) ?_
                refine lv_iload_n hx hb dX0_monthOf_9 rfl (lv_at hl 1 rfl) ?_
                refine lv_iload_n hx hb dX0_monthOf_10 rfl (lv_at hl 0 rfl) ?_
                refine rcSi (as := [.int p0, .int (5 : Int32)]) (rest := [.int p1]) C (c_X0_daysAhead l G p0 (5 : Int32)) F_X0_daysAhead rfl bw170 bw171 hE vpn hl.1 dX0_monthOf_11 ⟨Nat.le_of_ble_eq_true rfl, Nat.le_of_ble_eq_true rfl⟩ rfl (Nat.le_of_ble_eq_true rfl) ⟨Nat.zero_le _, Nat.zero_le _⟩ ?_
                refine lv_icmp_le (tgt := 19) hx hb dX0_monthOf_14 (by decide) (fun c_8 => ?_) (fun c_8 => ?_)
                · refine lv_iinc (v := (4 : Int32)) (lv' := [(2, .int (4 : Int32)), (0, .int p0), (1, .int p1)]) hx hb dX0_monthOf_19 hl (k := 0) rfl (by first | rfl | decide) (Nat.le_of_ble_eq_true rfl) rfl (fun ls hl => ?_)
                  refine lv_goto (tgt := 3) hx hb dX0_monthOf_22 (by decide) ?_
                  refine lv_iload_n hx hb dX0_monthOf_3 rfl (lv_at hl 0 rfl) ?_
                  refine lv_iconst (v := (1 : Int32)) hx hb dX0_monthOf_4 qi_1 ?_
                  refine lv_icmp_le (tgt := 25) hx hb dX0_monthOf_5 (by decide) (fun c_x => absurd c_x (by decide)) (fun _ => ?_)
                  refine lv_iload_n hx hb dX0_monthOf_8 rfl (lv_at hl 2 rfl) ?_
                  refine lv_iload_n hx hb dX0_monthOf_9 rfl (lv_at hl 1 rfl) ?_
                  refine lv_iload_n hx hb dX0_monthOf_10 rfl (lv_at hl 0 rfl) ?_
                  refine rcSi (as := [.int p0, .int (4 : Int32)]) (rest := [.int p1]) C (c_X0_daysAhead l G p0 (4 : Int32)) F_X0_daysAhead rfl bw170 bw171 hE vpn hl.1 dX0_monthOf_11 ⟨Nat.le_of_ble_eq_true rfl, Nat.le_of_ble_eq_true rfl⟩ rfl (Nat.le_of_ble_eq_true rfl) ⟨Nat.zero_le _, Nat.zero_le _⟩ ?_
                  refine lv_icmp_le (tgt := 19) hx hb dX0_monthOf_14 (by decide) (fun c_9 => ?_) (fun c_9 => ?_)
                  · refine lv_iinc (v := (3 : Int32)) (lv' := [(2, .int (3 : Int32)), (0, .int p0), (1, .int p1)]) hx hb dX0_monthOf_19 hl (k := 0) rfl (by first | rfl | decide) (Nat.le_of_ble_eq_true rfl) rfl (fun ls hl => ?_)
                    refine lv_goto (tgt := 3) hx hb dX0_monthOf_22 (by decide) ?_
                    refine lv_iload_n hx hb dX0_monthOf_3 rfl (lv_at hl 0 rfl) ?_
                    refine lv_iconst (v := (1 : Int32)) hx hb dX0_monthOf_4 qi_1 ?_
                    refine lv_icmp_le (tgt := 25) hx hb dX0_monthOf_5 (by decide) (fun c_x => absurd c_x (by decide)) (fun _ => ?_)
                    refine lv_iload_n hx hb dX0_monthOf_8 rfl (lv_at hl 2 rfl) ?_
                    refine lv_iload_n hx hb dX0_monthOf_9 rfl (lv_at hl 1 rfl) ?_
                    refine lv_iload_n hx hb dX0_monthOf_10 rfl (lv_at hl 0 rfl) ?_
                    refine rcSi (as := [.int p0, .int (3 : Int32)]) (rest := [.int p1]) C (c_X0_daysAhead l G p0 (3 : Int32)) F_X0_daysAhead rfl bw170 bw171 hE vpn hl.1 dX0_monthOf_11 ⟨Nat.le_of_ble_eq_true rfl, Nat.le_of_ble_eq_true rfl⟩ rfl (Nat.le_of_ble_eq_true rfl) ⟨Nat.zero_le _, Nat.zero_le _⟩ ?_
                    refine lv_icmp_le (tgt := 19) hx hb dX0_monthOf_14 (by decide) (fun c_10 => ?_) (fun c_10 => ?_)
                    · refine lv_iinc (v := (2 : Int32)) (lv' := [(2, .int (2 : Int32)), (0, .int p0), (1, .int p1)]) hx hb dX0_monthOf_19 hl (k := 0) rfl (by first | rfl | decide) (Nat.le_of_ble_eq_true rfl) rfl (fun ls hl => ?_)
                      refine lv_goto (tgt := 3) hx hb dX0_monthOf_22 (by decide) ?_
                      refine lv_iload_n hx hb dX0_monthOf_3 rfl (lv_at hl 0 rfl) ?_
                      refine lv_iconst (v := (1 : Int32)) hx hb dX0_monthOf_4 qi_1 ?_
                      refine lv_icmp_le (tgt := 25) hx hb dX0_monthOf_5 (by decide) (fun c_x => absurd c_x (by decide)) (fun _ => ?_)
                      refine lv_iload_n hx hb dX0_monthOf_8 rfl (lv_at hl 2 rfl) ?_
                      refine lv_iload_n hx hb dX0_monthOf_9 rfl (lv_at hl 1 rfl) ?_
                      refine lv_iload_n hx hb dX0_monthOf_10 rfl (lv_at hl 0 rfl) ?_
                      refine rcSi (as := [.int p0, .int (2 : Int32)]) (rest := [.int p1]) C (c_X0_daysAhead l G p0 (2 : Int32)) F_X0_daysAhead rfl bw170 bw171 hE vpn hl.1 dX0_monthOf_11 ⟨Nat.le_of_ble_eq_true rfl, Nat.le_of_ble_eq_true rfl⟩ rfl (Nat.le_of_ble_eq_true rfl) ⟨Nat.zero_le _, Nat.zero_le _⟩ ?_
                      refine lv_icmp_le (tgt := 19) hx hb dX0_monthOf_14 (by decide) (fun c_11 => ?_) (fun c_11 => ?_)
                      · refine lv_iinc (v := (1 : Int32)) (lv' := [(2, .int (1 : Int32)), (0, .int p0), (1, .int p1)]) hx hb dX0_monthOf_19 hl (k := 0) rfl (by first | rfl | decide) (Nat.le_of_ble_eq_true rfl) rfl (fun ls hl => ?_)
                        refine lv_goto (tgt := 3) hx hb dX0_monthOf_22 (by decide) ?_
                        refine lv_iload_n hx hb dX0_monthOf_3 rfl (lv_at hl 0 rfl) ?_
                        refine lv_iconst (v := (1 : Int32)) hx hb dX0_monthOf_4 qi_1 ?_
                        refine lv_icmp_le (tgt := 25) hx hb dX0_monthOf_5 (by decide) (fun _ => ?_) (fun c_x => absurd (show (1 : Int32) ≤ (1 : Int32) from by decide) c_x)
                        refine lv_iconst (v := (1 : Int32)) hx hb dX0_monthOf_25 qi_1 ?_
                        exact re_i hx hb hr hk dX0_monthOf_26 (ei (Eq.trans (if_pos c_1) (Eq.trans (if_pos c_2) (Eq.trans (if_pos c_3) (Eq.trans (if_pos c_4) (Eq.trans (if_pos c_5) (Eq.trans (if_pos c_6) (Eq.trans (if_pos c_7) (Eq.trans (if_pos c_8) (Eq.trans (if_pos c_9) (Eq.trans (if_pos c_10) (if_pos c_11))))))))))))
                      · refine lv_iload_n hx hb dX0_monthOf_17 rfl (lv_at hl 0 rfl) ?_
                        exact re_i hx hb hr hk dX0_monthOf_18 (ei (Eq.trans (if_pos c_1) (Eq.trans (if_pos c_2) (Eq.trans (if_pos c_3) (Eq.trans (if_pos c_4) (Eq.trans (if_pos c_5) (Eq.trans (if_pos c_6) (Eq.trans (if_pos c_7) (Eq.trans (if_pos c_8) (Eq.trans (if_pos c_9) (Eq.trans (if_pos c_10) (if_neg c_11))))))))))))
                    · refine lv_iload_n hx hb dX0_monthOf_17 rfl (lv_at hl 0 rfl) ?_
                      exact re_i hx hb hr hk dX0_monthOf_18 (ei (Eq.trans (if_pos c_1) (Eq.trans (if_pos c_2) (Eq.trans (if_pos c_3) (Eq.trans (if_pos c_4) (Eq.trans (if_pos c_5) (Eq.trans (if_pos c_6) (Eq.trans (if_pos c_7) (Eq.trans (if_pos c_8) (Eq.trans (if_pos c_9) (if_neg c_10)))))))))))
                  · refine lv_iload_n hx hb dX0_monthOf_17 rfl (lv_at hl 0 rfl) ?_
                    exact re_i hx hb hr hk dX0_monthOf_18 (ei (Eq.trans (if_pos c_1) (Eq.trans (if_pos c_2) (Eq.trans (if_pos c_3) (Eq.trans (if_pos c_4) (Eq.trans (if_pos c_5) (Eq.trans (if_pos c_6) (Eq.trans (if_pos c_7) (Eq.trans (if_pos c_8) (if_neg c_9))))))))))
                · refine lv_iload_n hx hb dX0_monthOf_17 rfl (lv_at hl 0 rfl) ?_
                  exact re_i hx hb hr hk dX0_monthOf_18 (ei (Eq.trans (if_pos c_1) (Eq.trans (if_pos c_2) (Eq.trans (if_pos c_3) (Eq.trans (if_pos c_4) (Eq.trans (if_pos c_5) (Eq.trans (if_pos c_6) (Eq.trans (if_pos c_7) (if_neg c_8)))))))))
              · refine lv_iload_n hx hb dX0_monthOf_17 rfl (lv_at hl 0 rfl) ?_
                exact re_i hx hb hr hk dX0_monthOf_18 (ei (Eq.trans (if_pos c_1) (Eq.trans (if_pos c_2) (Eq.trans (if_pos c_3) (Eq.trans (if_pos c_4) (Eq.trans (if_pos c_5) (Eq.trans (if_pos c_6) (if_neg c_7))))))))
            · refine lv_iload_n hx hb dX0_monthOf_17 rfl (lv_at hl 0 rfl) ?_
              exact re_i hx hb hr hk dX0_monthOf_18 (ei (Eq.trans (if_pos c_1) (Eq.trans (if_pos c_2) (Eq.trans (if_pos c_3) (Eq.trans (if_pos c_4) (Eq.trans (if_pos c_5) (if_neg c_6)))))))
          · refine lv_iload_n hx hb dX0_monthOf_17 rfl (lv_at hl 0 rfl) ?_
            exact re_i hx hb hr hk dX0_monthOf_18 (ei (Eq.trans (if_pos c_1) (Eq.trans (if_pos c_2) (Eq.trans (if_pos c_3) (Eq.trans (if_pos c_4) (if_neg c_5))))))
        · refine lv_iload_n hx hb dX0_monthOf_17 rfl (lv_at hl 0 rfl) ?_
          exact re_i hx hb hr hk dX0_monthOf_18 (ei (Eq.trans (if_pos c_1) (Eq.trans (if_pos c_2) (Eq.trans (if_pos c_3) (if_neg c_4)))))
      · refine lv_iload_n hx hb dX0_monthOf_17 rfl (lv_at hl 0 rfl) ?_
        exact re_i hx hb hr hk dX0_monthOf_18 (ei (Eq.trans (if_pos c_1) (Eq.trans (if_pos c_2) (if_neg c_3))))
    · refine lv_iload_n hx hb dX0_monthOf_17 rfl (lv_at hl 0 rfl) ?_
      exact re_i hx hb hr hk dX0_monthOf_18 (ei (Eq.trans (if_pos c_1) (if_neg c_2)))
  · refine lv_iload_n hx hb dX0_monthOf_17 rfl (lv_at hl 0 rfl) ?_
    exact re_i hx hb hr hk dX0_monthOf_18 (ei (if_neg c_1))

set_option maxRecDepth 100000 in
set_option maxHeartbeats 4000000 in
theorem c_X0_hourOf (l : Launch) (G : GT) (p0 : Int64) : RO l G yX0_hourOf cX0_hourOf 2 (some .int) 1 [.long p0] [] (some (.int (fX0_hourOf p0))) := by
  refine RO.ofW (own := RX0) rfl (plainFor_of_name pnN_RX0) (Nat.le_of_ble_eq_true rfl) ?_
  intro p e s m below meth c C hr hk hE hP ls hl
  have hx := C.1
  have hb := C.2.1
  have hown := C.2.2.2.1
  have hw := C.2.2.2.2
  have hl : lv_has ls 2 [(0, .long p0)] := hl
  refine lv_lload_n hx hb dX0_hourOf_0 rfl (lv_at hl 0 rfl) ?_
  refine lv_ldc2 (v := (3600000000000 : Int64)) hx hb hown (hw _ bw152) dX0_hourOf_1 ?_
  refine lv_ldiv hx hb dX0_hourOf_4 (by decide) ?_
  refine lv_l2i (v := ((p0 / (3600000000000 : Int64)).toInt32)) hx hb dX0_hourOf_5 (by first | rfl | decide) ?_
  exact re_i hx hb hr hk dX0_hourOf_6 (ei rfl)

set_option maxRecDepth 100000 in
set_option maxHeartbeats 4000000 in
theorem c_X0_minuteOf (l : Launch) (G : GT) (p0 : Int64) : RO l G yX0_minuteOf cX0_minuteOf 2 (some .int) 1 [.long p0] [] (some (.int (fX0_minuteOf p0))) := by
  refine RO.ofW (own := RX0) rfl (plainFor_of_name pnN_RX0) (Nat.le_of_ble_eq_true rfl) ?_
  intro p e s m below meth c C hr hk hE hP ls hl
  have hx := C.1
  have hb := C.2.1
  have hown := C.2.2.2.1
  have hw := C.2.2.2.2
  have hl : lv_has ls 2 [(0, .long p0)] := hl
  refine lv_lload_n hx hb dX0_minuteOf_0 rfl (lv_at hl 0 rfl) ?_
  refine lv_ldc2 (v := (3600000000000 : Int64)) hx hb hown (hw _ bw152) dX0_minuteOf_1 ?_
  refine lv_lrem hx hb dX0_minuteOf_4 (by decide) ?_
  refine lv_ldc2 (v := (60000000000 : Int64)) hx hb hown (hw _ bw156) dX0_minuteOf_5 ?_
  refine lv_ldiv hx hb dX0_minuteOf_8 (by decide) ?_
  refine lv_l2i (v := (((p0 - p0 / (3600000000000 : Int64) * (3600000000000 : Int64)) / (60000000000 : Int64)).toInt32)) hx hb dX0_minuteOf_9 (by first | rfl | decide) ?_
  exact re_i hx hb hr hk dX0_minuteOf_10 (ei rfl)

set_option maxRecDepth 100000 in
set_option maxHeartbeats 4000000 in
theorem c_X0_secondOf (l : Launch) (G : GT) (p0 : Int64) : RO l G yX0_secondOf cX0_secondOf 2 (some .int) 1 [.long p0] [] (some (.int (fX0_secondOf p0))) := by
  refine RO.ofW (own := RX0) rfl (plainFor_of_name pnN_RX0) (Nat.le_of_ble_eq_true rfl) ?_
  intro p e s m below meth c C hr hk hE hP ls hl
  have hx := C.1
  have hb := C.2.1
  have hown := C.2.2.2.1
  have hw := C.2.2.2.2
  have hl : lv_has ls 2 [(0, .long p0)] := hl
  refine lv_lload_n hx hb dX0_secondOf_0 rfl (lv_at hl 0 rfl) ?_
  refine lv_ldc2 (v := (60000000000 : Int64)) hx hb hown (hw _ bw156) dX0_secondOf_1 ?_
  refine lv_lrem hx hb dX0_secondOf_4 (by decide) ?_
  refine lv_ldc2 (v := (1000000000 : Int64)) hx hb hown (hw _ bw160) dX0_secondOf_5 ?_
  refine lv_ldiv hx hb dX0_secondOf_8 (by decide) ?_
  refine lv_l2i (v := (((p0 - p0 / (60000000000 : Int64) * (60000000000 : Int64)) / (1000000000 : Int64)).toInt32)) hx hb dX0_secondOf_9 (by first | rfl | decide) ?_
  exact re_i hx hb hr hk dX0_secondOf_10 (ei rfl)

set_option maxRecDepth 100000 in
set_option maxHeartbeats 4000000 in
theorem c_X0_nanoOfSecond (l : Launch) (G : GT) (p0 : Int64) : RO l G yX0_nanoOfSecond cX0_nanoOfSecond 2 (some .int) 1 [.long p0] [] (some (.int (fX0_nanoOfSecond p0))) := by
  refine RO.ofW (own := RX0) rfl (plainFor_of_name pnN_RX0) (Nat.le_of_ble_eq_true rfl) ?_
  intro p e s m below meth c C hr hk hE hP ls hl
  have hx := C.1
  have hb := C.2.1
  have hown := C.2.2.2.1
  have hw := C.2.2.2.2
  have hl : lv_has ls 2 [(0, .long p0)] := hl
  refine lv_lload_n hx hb dX0_nanoOfSecond_0 rfl (lv_at hl 0 rfl) ?_
  refine lv_ldc2 (v := (1000000000 : Int64)) hx hb hown (hw _ bw160) dX0_nanoOfSecond_1 ?_
  refine lv_lrem hx hb dX0_nanoOfSecond_4 (by decide) ?_
  refine lv_l2i (v := ((p0 - p0 / (1000000000 : Int64) * (1000000000 : Int64)).toInt32)) hx hb dX0_nanoOfSecond_5 (by first | rfl | decide) ?_
  exact re_i hx hb hr hk dX0_nanoOfSecond_6 (ei rfl)

set_option maxRecDepth 100000 in
set_option maxHeartbeats 4000000 in
theorem c_X0_quotient (l : Launch) (G : GT) (p0 : Int64) (p1 : Int64) : RO l G yX0_quotient cX0_quotient 4 (some .long) 1 [.long p0, .long p1] [] (some (.long (fX0_quotient p0 p1))) := by
  refine RO.ofW (own := RX0) rfl (plainFor_of_name pnN_RX0) (Nat.le_of_ble_eq_true rfl) ?_
  intro p e s m below meth c C hr hk hE hP ls hl
  have hx := C.1
  have hb := C.2.1
  have hown := C.2.2.2.1
  have hw := C.2.2.2.2
  have hl : lv_has ls 4 [(0, .long p0), (2, .long p1)] := hl
  refine lv_lload_n hx hb dX0_quotient_0 rfl (lv_at hl 1 rfl) ?_
  refine lv_lconst (v := (0 : Int64)) hx hb dX0_quotient_1 ql_0 ?_
  refine W.lcmp hx hb dX0_quotient_2 ?_
  refine lv_if_ne (tgt := 10) hx hb dX0_quotient_3 (by decide) (fun c_1 => ?_) (fun c_1 => ?_)
  · refine lv_lload_n hx hb dX0_quotient_10 rfl (lv_at hl 0 rfl) ?_
    refine lv_lload_n hx hb dX0_quotient_11 rfl (lv_at hl 1 rfl) ?_
    refine lv_ldiv hx hb dX0_quotient_12 (fun h => c_1 (lg_cmp0.mpr h)) ?_
    exact re_l hx hb hr hk dX0_quotient_13 (el (if_neg c_1))
  · refine lv_lconst (v := (0 : Int64)) hx hb dX0_quotient_6 ql_0 ?_
    refine lv_goto (tgt := 13) hx hb dX0_quotient_7 (by decide) ?_
    exact re_l hx hb hr hk dX0_quotient_13 (el (if_pos c_1))

set_option maxRecDepth 100000 in
set_option maxHeartbeats 4000000 in
theorem c_X0_nanosOfUnit (l : Launch) (G : GT) (p0 : Int32) : RO l G yX0_nanosOfUnit cX0_nanosOfUnit 1 (some .long) 1 [.int p0] [] (some (.long (fX0_nanosOfUnit p0))) := by
  refine RO.ofW (own := RX0) rfl (plainFor_of_name pnN_RX0) (Nat.le_of_ble_eq_true rfl) ?_
  intro p e s m below meth c C hr hk hE hP ls hl
  have hx := C.1
  have hb := C.2.1
  have hown := C.2.2.2.1
  have hw := C.2.2.2.2
  have hl : lv_has ls 1 [(0, .int p0)] := hl
  refine lv_iload_n hx hb dX0_nanosOfUnit_0 rfl (lv_at hl 0 rfl) ?_
  by_cases c_1 : p0 = (0 : Int32)
  · refine lv_tableIn (tgt := 44) (off := 43) hx hb dX0_nanosOfUnit_1 (by rw [c_1]; decide) (by rw [c_1]; decide) (by rw [c_1]; decide) (by decide) ?_
    refine lv_lconst (v := (1 : Int64)) hx hb dX0_nanosOfUnit_44 ql_1 ?_
    exact re_l hx hb hr hk dX0_nanosOfUnit_45 (el (if_pos c_1))
  by_cases c_2 : p0 = (1 : Int32)
  · refine lv_tableIn (tgt := 46) (off := 45) hx hb dX0_nanosOfUnit_1 (by rw [c_2]; decide) (by rw [c_2]; decide) (by rw [c_2]; decide) (by decide) ?_
    refine lv_ldc2 (v := (1000 : Int64)) hx hb hown (hw _ bw226) dX0_nanosOfUnit_46 ?_
    exact re_l hx hb hr hk dX0_nanosOfUnit_49 (el (Eq.trans (if_neg c_1) (if_pos c_2)))
  by_cases c_3 : p0 = (2 : Int32)
  · refine lv_tableIn (tgt := 50) (off := 49) hx hb dX0_nanosOfUnit_1 (by rw [c_3]; decide) (by rw [c_3]; decide) (by rw [c_3]; decide) (by decide) ?_
    refine lv_ldc2 (v := (1000000 : Int64)) hx hb hown (hw _ bw227) dX0_nanosOfUnit_50 ?_
    exact re_l hx hb hr hk dX0_nanosOfUnit_53 (el (Eq.trans (if_neg c_1) (Eq.trans (if_neg c_2) (if_pos c_3))))
  by_cases c_4 : p0 = (3 : Int32)
  · refine lv_tableIn (tgt := 54) (off := 53) hx hb dX0_nanosOfUnit_1 (by rw [c_4]; decide) (by rw [c_4]; decide) (by rw [c_4]; decide) (by decide) ?_
    refine lv_ldc2 (v := (1000000000 : Int64)) hx hb hown (hw _ bw160) dX0_nanosOfUnit_54 ?_
    exact re_l hx hb hr hk dX0_nanosOfUnit_57 (el (Eq.trans (if_neg c_1) (Eq.trans (if_neg c_2) (Eq.trans (if_neg c_3) (if_pos c_4)))))
  by_cases c_5 : p0 = (4 : Int32)
  · refine lv_tableIn (tgt := 58) (off := 57) hx hb dX0_nanosOfUnit_1 (by rw [c_5]; decide) (by rw [c_5]; decide) (by rw [c_5]; decide) (by decide) ?_
    refine lv_ldc2 (v := (60000000000 : Int64)) hx hb hown (hw _ bw156) dX0_nanosOfUnit_58 ?_
    exact re_l hx hb hr hk dX0_nanosOfUnit_61 (el (Eq.trans (if_neg c_1) (Eq.trans (if_neg c_2) (Eq.trans (if_neg c_3) (Eq.trans (if_neg c_4) (if_pos c_5))))))
  by_cases c_6 : p0 = (5 : Int32)
  · refine lv_tableIn (tgt := 62) (off := 61) hx hb dX0_nanosOfUnit_1 (by rw [c_6]; decide) (by rw [c_6]; decide) (by rw [c_6]; decide) (by decide) ?_
    refine lv_ldc2 (v := (3600000000000 : Int64)) hx hb hown (hw _ bw152) dX0_nanosOfUnit_62 ?_
    exact re_l hx hb hr hk dX0_nanosOfUnit_65 (el (Eq.trans (if_neg c_1) (Eq.trans (if_neg c_2) (Eq.trans (if_neg c_3) (Eq.trans (if_neg c_4) (Eq.trans (if_neg c_5) (if_pos c_6)))))))
  by_cases c_7 : p0 = (6 : Int32)
  · refine lv_tableIn (tgt := 66) (off := 65) hx hb dX0_nanosOfUnit_1 (by rw [c_7]; decide) (by rw [c_7]; decide) (by rw [c_7]; decide) (by decide) ?_
    refine lv_ldc2 (v := (43200000000000 : Int64)) hx hb hown (hw _ bw228) dX0_nanosOfUnit_66 ?_
    exact re_l hx hb hr hk dX0_nanosOfUnit_69 (el (Eq.trans (if_neg c_1) (Eq.trans (if_neg c_2) (Eq.trans (if_neg c_3) (Eq.trans (if_neg c_4) (Eq.trans (if_neg c_5) (Eq.trans (if_neg c_6) (if_pos c_7))))))))
  have nc_1 := lv_neT c_1 (a := 0) (by decide)
  have nc_2 := lv_neT c_2 (a := 1) (by decide)
  have nc_3 := lv_neT c_3 (a := 2) (by decide)
  have nc_4 := lv_neT c_4 (a := 3) (by decide)
  have nc_5 := lv_neT c_5 (a := 4) (by decide)
  have nc_6 := lv_neT c_6 (a := 5) (by decide)
  have nc_7 := lv_neT c_7 (a := 6) (by decide)
  refine lv_tableOut (tgt := 70) hx hb dX0_nanosOfUnit_1 (by omega) (by decide) ?_
  refine lv_ldc2 (v := (86400000000000 : Int64)) hx hb hown (hw _ bw190) dX0_nanosOfUnit_70 ?_
  exact re_l hx hb hr hk dX0_nanosOfUnit_73 (el (Eq.trans (if_neg c_1) (Eq.trans (if_neg c_2) (Eq.trans (if_neg c_3) (Eq.trans (if_neg c_4) (Eq.trans (if_neg c_5) (Eq.trans (if_neg c_6) (if_neg c_7))))))))

set_option maxRecDepth 100000 in
set_option maxHeartbeats 4000000 in
theorem c_X0_monthsOfUnit (l : Launch) (G : GT) (p0 : Int32) : RO l G yX0_monthsOfUnit cX0_monthsOfUnit 1 (some .long) 1 [.int p0] [] (some (.long (fX0_monthsOfUnit p0))) := by
  refine RO.ofW (own := RX0) rfl (plainFor_of_name pnN_RX0) (Nat.le_of_ble_eq_true rfl) ?_
  intro p e s m below meth c C hr hk hE hP ls hl
  have hx := C.1
  have hb := C.2.1
  have hown := C.2.2.2.1
  have hw := C.2.2.2.2
  have hl : lv_has ls 1 [(0, .int p0)] := hl
  refine lv_iload_n hx hb dX0_monthsOfUnit_0 rfl (lv_at hl 0 rfl) ?_
  by_cases c_1 : p0 = (9 : Int32)
  · refine lv_tableIn (tgt := 32) (off := 31) hx hb dX0_monthsOfUnit_1 (by rw [c_1]; decide) (by rw [c_1]; decide) (by rw [c_1]; decide) (by decide) ?_
    refine lv_lconst (v := (1 : Int64)) hx hb dX0_monthsOfUnit_32 ql_1 ?_
    exact re_l hx hb hr hk dX0_monthsOfUnit_33 (el (if_pos c_1))
  by_cases c_2 : p0 = (10 : Int32)
  · refine lv_tableIn (tgt := 34) (off := 33) hx hb dX0_monthsOfUnit_1 (by rw [c_2]; decide) (by rw [c_2]; decide) (by rw [c_2]; decide) (by decide) ?_
    refine lv_ldc2 (v := (12 : Int64)) hx hb hown (hw _ bw543) dX0_monthsOfUnit_34 ?_
    exact re_l hx hb hr hk dX0_monthsOfUnit_37 (el (Eq.trans (if_neg c_1) (if_pos c_2)))
  by_cases c_3 : p0 = (11 : Int32)
  · refine lv_tableIn (tgt := 38) (off := 37) hx hb dX0_monthsOfUnit_1 (by rw [c_3]; decide) (by rw [c_3]; decide) (by rw [c_3]; decide) (by decide) ?_
    refine lv_ldc2 (v := (120 : Int64)) hx hb hown (hw _ bw680) dX0_monthsOfUnit_38 ?_
    exact re_l hx hb hr hk dX0_monthsOfUnit_41 (el (Eq.trans (if_neg c_1) (Eq.trans (if_neg c_2) (if_pos c_3))))
  by_cases c_4 : p0 = (12 : Int32)
  · refine lv_tableIn (tgt := 42) (off := 41) hx hb dX0_monthsOfUnit_1 (by rw [c_4]; decide) (by rw [c_4]; decide) (by rw [c_4]; decide) (by decide) ?_
    refine lv_ldc2 (v := (1200 : Int64)) hx hb hown (hw _ bw681) dX0_monthsOfUnit_42 ?_
    exact re_l hx hb hr hk dX0_monthsOfUnit_45 (el (Eq.trans (if_neg c_1) (Eq.trans (if_neg c_2) (Eq.trans (if_neg c_3) (if_pos c_4)))))
  have nc_1 := lv_neT c_1 (a := 9) (by decide)
  have nc_2 := lv_neT c_2 (a := 10) (by decide)
  have nc_3 := lv_neT c_3 (a := 11) (by decide)
  have nc_4 := lv_neT c_4 (a := 12) (by decide)
  refine lv_tableOut (tgt := 46) hx hb dX0_monthsOfUnit_1 (by omega) (by decide) ?_
  refine lv_ldc2 (v := (12000 : Int64)) hx hb hown (hw _ bw682) dX0_monthsOfUnit_46 ?_
  exact re_l hx hb hr hk dX0_monthsOfUnit_49 (el (Eq.trans (if_neg c_1) (Eq.trans (if_neg c_2) (Eq.trans (if_neg c_3) (if_neg c_4)))))

set_option maxRecDepth 100000 in
set_option maxHeartbeats 4000000 in
theorem c_X0_cutNano (l : Launch) (G : GT) (p0 : Int64) (p1 : Int32) : RO l G yX0_cutNano cX0_cutNano 5 (some .long) 2 [.long p0, .int p1] [] (some (.long (fX0_cutNano p0 p1))) := by
  refine RO.ofW (own := RX0) rfl (plainFor_of_name pnN_RX0) (Nat.le_of_ble_eq_true rfl) ?_
  intro p e s m below meth c C hr hk hE hP ls hl
  have hx := C.1
  have hb := C.2.1
  have hown := C.2.2.2.1
  have hw := C.2.2.2.2
  have hl : lv_has ls 5 [(0, .long p0), (2, .int p1)] := hl
  refine lv_iload_n hx hb dX0_cutNano_0 rfl (lv_at hl 1 rfl) ?_
  refine rcSl (as := [.int p1]) (rest := []) C (c_X0_nanosOfUnit l G p1) F_X0_nanosOfUnit rfl bw223 bw224 hE vpn hl.1 dX0_cutNano_1 ⟨Nat.le_of_ble_eq_true rfl, Nat.le_of_ble_eq_true rfl⟩ rfl (Nat.le_of_ble_eq_true rfl) ⟨Nat.zero_le _, Nat.zero_le _⟩ ?_
  refine lv_lstore_n (lv' := [(3, .long (fX0_nanosOfUnit p1)), (0, .long p0), (2, .int p1)]) hx hb dX0_cutNano_4 rfl hl (Nat.le_of_ble_eq_true rfl) rfl (fun ls hl => ?_)
  refine lv_lload_n hx hb dX0_cutNano_5 rfl (lv_at hl 1 rfl) ?_
  refine lv_lload_n hx hb dX0_cutNano_6 rfl (lv_at hl 0 rfl) ?_
  refine rcSl (as := [.long p0, .long (fX0_nanosOfUnit p1)]) (rest := []) C (c_X0_quotient l G p0 (fX0_nanosOfUnit p1)) F_X0_quotient rfl bw229 bw230 hE vpn hl.1 dX0_cutNano_7 ⟨Nat.le_of_ble_eq_true rfl, Nat.le_of_ble_eq_true rfl⟩ rfl (Nat.le_of_ble_eq_true rfl) ⟨Nat.zero_le _, Nat.zero_le _⟩ ?_
  refine lv_lload_n hx hb dX0_cutNano_10 rfl (lv_at hl 0 rfl) ?_
  refine lv_lmul hx hb dX0_cutNano_11 ?_
  exact re_l hx hb hr hk dX0_cutNano_12 (el rfl)

set_option maxRecDepth 100000 in
set_option maxHeartbeats 4000000 in
theorem c_X0_timeField (l : Launch) (G : GT) (p0 : Int64) (p1 : Int32) : RO l G yX0_timeField cX0_timeField 4 (some .long) 2 [.long p0, .int p1] [] (some (.long (fX0_timeField p0 p1))) := by
  refine RO.ofW (own := RX0) rfl (plainFor_of_name pnN_RX0) (Nat.le_of_ble_eq_true rfl) ?_
  intro p e s m below meth c C hr hk hE hP ls hl
  have hx := C.1
  have hb := C.2.1
  have hown := C.2.2.2.1
  have hw := C.2.2.2.2
  have hl : lv_has ls 4 [(0, .long p0), (2, .int p1)] := hl
  refine lv_lload_n hx hb dX0_timeField_0 rfl (lv_at hl 0 rfl) ?_
  refine rcSi (as := [.long p0]) (rest := []) C (c_X0_hourOf l G p0) F_X0_hourOf rfl bw149 bw150 hE vpn hl.1 dX0_timeField_1 ⟨Nat.le_of_ble_eq_true rfl, Nat.le_of_ble_eq_true rfl⟩ rfl (Nat.le_of_ble_eq_true rfl) ⟨Nat.zero_le _, Nat.zero_le _⟩ ?_
  refine lv_istore_n (lv' := [(3, .int (fX0_hourOf p0)), (0, .long p0), (2, .int p1)]) hx hb dX0_timeField_4 rfl hl (Nat.le_of_ble_eq_true rfl) rfl (fun ls hl => ?_)
  refine lv_iload_n hx hb dX0_timeField_5 rfl (lv_at hl 2 rfl) ?_
  by_cases c_1 : p1 = (0 : Int32)
  · refine lv_tableIn (tgt := 76) (off := 70) hx hb dX0_timeField_6 (by rw [c_1]; decide) (by rw [c_1]; decide) (by rw [c_1]; decide) (by decide) ?_
    refine lv_lload_n hx hb dX0_timeField_76 rfl (lv_at hl 1 rfl) ?_
    refine rcSi (as := [.long p0]) (rest := []) C (c_X0_nanoOfSecond l G p0) F_X0_nanoOfSecond rfl bw161 bw162 hE vpn hl.1 dX0_timeField_77 ⟨Nat.le_of_ble_eq_true rfl, Nat.le_of_ble_eq_true rfl⟩ rfl (Nat.le_of_ble_eq_true rfl) ⟨Nat.zero_le _, Nat.zero_le _⟩ ?_
    refine lv_i2l (v := ((fX0_nanoOfSecond p0).toInt64)) hx hb dX0_timeField_80 (by first | rfl | decide) ?_
    exact re_l hx hb hr hk dX0_timeField_81 (el (if_pos c_1))
  by_cases c_2 : p1 = (1 : Int32)
  · refine lv_tableIn (tgt := 82) (off := 76) hx hb dX0_timeField_6 (by rw [c_2]; decide) (by rw [c_2]; decide) (by rw [c_2]; decide) (by decide) ?_
    refine lv_lload_n hx hb dX0_timeField_82 rfl (lv_at hl 1 rfl) ?_
    exact re_l hx hb hr hk dX0_timeField_83 (el (Eq.trans (if_neg c_1) (if_pos c_2)))
  by_cases c_3 : p1 = (2 : Int32)
  · refine lv_tableIn (tgt := 84) (off := 78) hx hb dX0_timeField_6 (by rw [c_3]; decide) (by rw [c_3]; decide) (by rw [c_3]; decide) (by decide) ?_
    refine lv_lload_n hx hb dX0_timeField_84 rfl (lv_at hl 1 rfl) ?_
    refine rcSi (as := [.long p0]) (rest := []) C (c_X0_nanoOfSecond l G p0) F_X0_nanoOfSecond rfl bw161 bw162 hE vpn hl.1 dX0_timeField_85 ⟨Nat.le_of_ble_eq_true rfl, Nat.le_of_ble_eq_true rfl⟩ rfl (Nat.le_of_ble_eq_true rfl) ⟨Nat.zero_le _, Nat.zero_le _⟩ ?_
    refine lv_sipush (v := (1000 : Int32)) hx hb dX0_timeField_88 qs_1000 ?_
    refine lv_idiv hx hb dX0_timeField_91 (by decide) ?_
    refine lv_i2l (v := (((fX0_nanoOfSecond p0) / (1000 : Int32)).toInt64)) hx hb dX0_timeField_92 (by first | rfl | decide) ?_
    exact re_l hx hb hr hk dX0_timeField_93 (el (Eq.trans (if_neg c_1) (Eq.trans (if_neg c_2) (if_pos c_3))))
  by_cases c_4 : p1 = (3 : Int32)
  · refine lv_tableIn (tgt := 94) (off := 88) hx hb dX0_timeField_6 (by rw [c_4]; decide) (by rw [c_4]; decide) (by rw [c_4]; decide) (by decide) ?_
    refine lv_lload_n hx hb dX0_timeField_94 rfl (lv_at hl 1 rfl) ?_
    refine lv_ldc2 (v := (1000 : Int64)) hx hb hown (hw _ bw226) dX0_timeField_95 ?_
    refine lv_ldiv hx hb dX0_timeField_98 (by decide) ?_
    exact re_l hx hb hr hk dX0_timeField_99 (el (Eq.trans (if_neg c_1) (Eq.trans (if_neg c_2) (Eq.trans (if_neg c_3) (if_pos c_4)))))
  by_cases c_5 : p1 = (4 : Int32)
  · refine lv_tableIn (tgt := 100) (off := 94) hx hb dX0_timeField_6 (by rw [c_5]; decide) (by rw [c_5]; decide) (by rw [c_5]; decide) (by decide) ?_
    refine lv_lload_n hx hb dX0_timeField_100 rfl (lv_at hl 1 rfl) ?_
    refine rcSi (as := [.long p0]) (rest := []) C (c_X0_nanoOfSecond l G p0) F_X0_nanoOfSecond rfl bw161 bw162 hE vpn hl.1 dX0_timeField_101 ⟨Nat.le_of_ble_eq_true rfl, Nat.le_of_ble_eq_true rfl⟩ rfl (Nat.le_of_ble_eq_true rfl) ⟨Nat.zero_le _, Nat.zero_le _⟩ ?_
    refine lv_ldcw (v := (1000000 : Int32)) hx hb hown (hw _ bw1091) dX0_timeField_104 ?_
    refine lv_idiv hx hb dX0_timeField_107 (by decide) ?_
    refine lv_i2l (v := (((fX0_nanoOfSecond p0) / (1000000 : Int32)).toInt64)) hx hb dX0_timeField_108 (by first | rfl | decide) ?_
    exact re_l hx hb hr hk dX0_timeField_109 (el (Eq.trans (if_neg c_1) (Eq.trans (if_neg c_2) (Eq.trans (if_neg c_3) (Eq.trans (if_neg c_4) (if_pos c_5))))))
  by_cases c_6 : p1 = (5 : Int32)
  · refine lv_tableIn (tgt := 110) (off := 104) hx hb dX0_timeField_6 (by rw [c_6]; decide) (by rw [c_6]; decide) (by rw [c_6]; decide) (by decide) ?_
    refine lv_lload_n hx hb dX0_timeField_110 rfl (lv_at hl 1 rfl) ?_
    refine lv_ldc2 (v := (1000000 : Int64)) hx hb hown (hw _ bw227) dX0_timeField_111 ?_
    refine lv_ldiv hx hb dX0_timeField_114 (by decide) ?_
    exact re_l hx hb hr hk dX0_timeField_115 (el (Eq.trans (if_neg c_1) (Eq.trans (if_neg c_2) (Eq.trans (if_neg c_3) (Eq.trans (if_neg c_4) (Eq.trans (if_neg c_5) (if_pos c_6)))))))
  by_cases c_7 : p1 = (6 : Int32)
  · refine lv_tableIn (tgt := 116) (off := 110) hx hb dX0_timeField_6 (by rw [c_7]; decide) (by rw [c_7]; decide) (by rw [c_7]; decide) (by decide) ?_
    refine lv_lload_n hx hb dX0_timeField_116 rfl (lv_at hl 1 rfl) ?_
    refine rcSi (as := [.long p0]) (rest := []) C (c_X0_secondOf l G p0) F_X0_secondOf rfl bw157 bw158 hE vpn hl.1 dX0_timeField_117 ⟨Nat.le_of_ble_eq_true rfl, Nat.le_of_ble_eq_true rfl⟩ rfl (Nat.le_of_ble_eq_true rfl) ⟨Nat.zero_le _, Nat.zero_le _⟩ ?_
    refine lv_i2l (v := ((fX0_secondOf p0).toInt64)) hx hb dX0_timeField_120 (by first | rfl | decide) ?_
    exact re_l hx hb hr hk dX0_timeField_121 (el (Eq.trans (if_neg c_1) (Eq.trans (if_neg c_2) (Eq.trans (if_neg c_3) (Eq.trans (if_neg c_4) (Eq.trans (if_neg c_5) (Eq.trans (if_neg c_6) (if_pos c_7))))))))
  by_cases c_8 : p1 = (7 : Int32)
  · refine lv_tableIn (tgt := 122) (off := 116) hx hb dX0_timeField_6 (by rw [c_8]; decide) (by rw [c_8]; decide) (by rw [c_8]; decide) (by decide) ?_
    refine lv_lload_n hx hb dX0_timeField_122 rfl (lv_at hl 1 rfl) ?_
    refine lv_ldc2 (v := (1000000000 : Int64)) hx hb hown (hw _ bw160) dX0_timeField_123 ?_
    refine lv_ldiv hx hb dX0_timeField_126 (by decide) ?_
    exact re_l hx hb hr hk dX0_timeField_127 (el (Eq.trans (if_neg c_1) (Eq.trans (if_neg c_2) (Eq.trans (if_neg c_3) (Eq.trans (if_neg c_4) (Eq.trans (if_neg c_5) (Eq.trans (if_neg c_6) (Eq.trans (if_neg c_7) (if_pos c_8)))))))))
  by_cases c_9 : p1 = (8 : Int32)
  · refine lv_tableIn (tgt := 128) (off := 122) hx hb dX0_timeField_6 (by rw [c_9]; decide) (by rw [c_9]; decide) (by rw [c_9]; decide) (by decide) ?_
    refine lv_lload_n hx hb dX0_timeField_128 rfl (lv_at hl 1 rfl) ?_
    refine rcSi (as := [.long p0]) (rest := []) C (c_X0_minuteOf l G p0) F_X0_minuteOf rfl bw153 bw154 hE vpn hl.1 dX0_timeField_129 ⟨Nat.le_of_ble_eq_true rfl, Nat.le_of_ble_eq_true rfl⟩ rfl (Nat.le_of_ble_eq_true rfl) ⟨Nat.zero_le _, Nat.zero_le _⟩ ?_
    refine lv_i2l (v := ((fX0_minuteOf p0).toInt64)) hx hb dX0_timeField_132 (by first | rfl | decide) ?_
    exact re_l hx hb hr hk dX0_timeField_133 (el (Eq.trans (if_neg c_1) (Eq.trans (if_neg c_2) (Eq.trans (if_neg c_3) (Eq.trans (if_neg c_4) (Eq.trans (if_neg c_5) (Eq.trans (if_neg c_6) (Eq.trans (if_neg c_7) (Eq.trans (if_neg c_8) (if_pos c_9))))))))))
  by_cases c_10 : p1 = (9 : Int32)
  · refine lv_tableIn (tgt := 134) (off := 128) hx hb dX0_timeField_6 (by rw [c_10]; decide) (by rw [c_10]; decide) (by rw [c_10]; decide) (by decide) ?_
    refine lv_lload_n hx hb dX0_timeField_134 rfl (lv_at hl 1 rfl) ?_
    refine lv_ldc2 (v := (60000000000 : Int64)) hx hb hown (hw _ bw156) dX0_timeField_135 ?_
    refine lv_ldiv hx hb dX0_timeField_138 (by decide) ?_
    exact re_l hx hb hr hk dX0_timeField_139 (el (Eq.trans (if_neg c_1) (Eq.trans (if_neg c_2) (Eq.trans (if_neg c_3) (Eq.trans (if_neg c_4) (Eq.trans (if_neg c_5) (Eq.trans (if_neg c_6) (Eq.trans (if_neg c_7) (Eq.trans (if_neg c_8) (Eq.trans (if_neg c_9) (if_pos c_10)))))))))))
  by_cases c_11 : p1 = (10 : Int32)
  · refine lv_tableIn (tgt := 140) (off := 134) hx hb dX0_timeField_6 (by rw [c_11]; decide) (by rw [c_11]; decide) (by rw [c_11]; decide) (by decide) ?_
    refine lv_iload_n hx hb dX0_timeField_140 rfl (lv_at hl 0 rfl) ?_
    refine lv_bipush (v := (12 : Int32)) hx hb dX0_timeField_141 qb_12 ?_
    refine lv_irem hx hb dX0_timeField_143 (by decide) ?_
    refine lv_i2l (v := (((fX0_hourOf p0) - (fX0_hourOf p0) / (12 : Int32) * (12 : Int32)).toInt64)) hx hb dX0_timeField_144 (by first | rfl | decide) ?_
    exact re_l hx hb hr hk dX0_timeField_145 (el (Eq.trans (if_neg c_1) (Eq.trans (if_neg c_2) (Eq.trans (if_neg c_3) (Eq.trans (if_neg c_4) (Eq.trans (if_neg c_5) (Eq.trans (if_neg c_6) (Eq.trans (if_neg c_7) (Eq.trans (if_neg c_8) (Eq.trans (if_neg c_9) (Eq.trans (if_neg c_10) (if_pos c_11))))))))))))
  by_cases c_12 : p1 = (11 : Int32)
  · refine lv_tableIn (tgt := 146) (off := 140) hx hb dX0_timeField_6 (by rw [c_12]; decide) (by rw [c_12]; decide) (by rw [c_12]; decide) (by decide) ?_
    refine lv_iload_n hx hb dX0_timeField_146 rfl (lv_at hl 0 rfl) ?_
    refine lv_bipush (v := (12 : Int32)) hx hb dX0_timeField_147 qb_12 ?_
    refine lv_irem hx hb dX0_timeField_149 (by decide) ?_
    refine lv_if_ne (tgt := 159) hx hb dX0_timeField_150 (by decide) (fun c_13 => ?_) (fun c_13 => ?_)
    · refine lv_iload_n hx hb dX0_timeField_159 rfl (lv_at hl 0 rfl) ?_
      refine lv_bipush (v := (12 : Int32)) hx hb dX0_timeField_160 qb_12 ?_
      refine lv_irem hx hb dX0_timeField_162 (by decide) ?_
      refine lv_i2l (v := (((fX0_hourOf p0) - (fX0_hourOf p0) / (12 : Int32) * (12 : Int32)).toInt64)) hx hb dX0_timeField_163 (by first | rfl | decide) ?_
      exact re_l hx hb hr hk dX0_timeField_164 (el (Eq.trans (if_neg c_1) (Eq.trans (if_neg c_2) (Eq.trans (if_neg c_3) (Eq.trans (if_neg c_4) (Eq.trans (if_neg c_5) (Eq.trans (if_neg c_6) (Eq.trans (if_neg c_7) (Eq.trans (if_neg c_8) (Eq.trans (if_neg c_9) (Eq.trans (if_neg c_10) (Eq.trans (if_neg c_11) (Eq.trans (if_pos c_12) (if_neg c_13))))))))))))))
    · refine lv_ldc2 (v := (12 : Int64)) hx hb hown (hw _ bw543) dX0_timeField_153 ?_
      refine lv_goto (tgt := 164) hx hb dX0_timeField_156 (by decide) ?_
      exact re_l hx hb hr hk dX0_timeField_164 (el (Eq.trans (if_neg c_1) (Eq.trans (if_neg c_2) (Eq.trans (if_neg c_3) (Eq.trans (if_neg c_4) (Eq.trans (if_neg c_5) (Eq.trans (if_neg c_6) (Eq.trans (if_neg c_7) (Eq.trans (if_neg c_8) (Eq.trans (if_neg c_9) (Eq.trans (if_neg c_10) (Eq.trans (if_neg c_11) (Eq.trans (if_pos c_12) (if_pos c_13))))))))))))))
  by_cases c_14 : p1 = (12 : Int32)
  · refine lv_tableIn (tgt := 165) (off := 159) hx hb dX0_timeField_6 (by rw [c_14]; decide) (by rw [c_14]; decide) (by rw [c_14]; decide) (by decide) ?_
    refine lv_iload_n hx hb dX0_timeField_165 rfl (lv_at hl 0 rfl) ?_
    refine lv_i2l (v := ((fX0_hourOf p0).toInt64)) hx hb dX0_timeField_166 (by first | rfl | decide) ?_
    exact re_l hx hb hr hk dX0_timeField_167 (el (Eq.trans (if_neg c_1) (Eq.trans (if_neg c_2) (Eq.trans (if_neg c_3) (Eq.trans (if_neg c_4) (Eq.trans (if_neg c_5) (Eq.trans (if_neg c_6) (Eq.trans (if_neg c_7) (Eq.trans (if_neg c_8) (Eq.trans (if_neg c_9) (Eq.trans (if_neg c_10) (Eq.trans (if_neg c_11) (Eq.trans (if_neg c_12) (if_pos c_14))))))))))))))
  by_cases c_15 : p1 = (13 : Int32)
  · refine lv_tableIn (tgt := 168) (off := 162) hx hb dX0_timeField_6 (by rw [c_15]; decide) (by rw [c_15]; decide) (by rw [c_15]; decide) (by decide) ?_
    refine lv_iload_n hx hb dX0_timeField_168 rfl (lv_at hl 0 rfl) ?_
    refine lv_if_ne (tgt := 178) hx hb dX0_timeField_169 (by decide) (fun c_16 => ?_) (fun c_16 => ?_)
    · refine lv_iload_n hx hb dX0_timeField_178 rfl (lv_at hl 0 rfl) ?_
      refine lv_i2l (v := ((fX0_hourOf p0).toInt64)) hx hb dX0_timeField_179 (by first | rfl | decide) ?_
      exact re_l hx hb hr hk dX0_timeField_180 (el (Eq.trans (if_neg c_1) (Eq.trans (if_neg c_2) (Eq.trans (if_neg c_3) (Eq.trans (if_neg c_4) (Eq.trans (if_neg c_5) (Eq.trans (if_neg c_6) (Eq.trans (if_neg c_7) (Eq.trans (if_neg c_8) (Eq.trans (if_neg c_9) (Eq.trans (if_neg c_10) (Eq.trans (if_neg c_11) (Eq.trans (if_neg c_12) (Eq.trans (if_neg c_14) (Eq.trans (if_pos c_15) (if_neg c_16))))))))))))))))
    · refine lv_ldc2 (v := (24 : Int64)) hx hb hown (hw _ bw1092) dX0_timeField_172 ?_
      refine lv_goto (tgt := 180) hx hb dX0_timeField_175 (by decide) ?_
      exact re_l hx hb hr hk dX0_timeField_180 (el (Eq.trans (if_neg c_1) (Eq.trans (if_neg c_2) (Eq.trans (if_neg c_3) (Eq.trans (if_neg c_4) (Eq.trans (if_neg c_5) (Eq.trans (if_neg c_6) (Eq.trans (if_neg c_7) (Eq.trans (if_neg c_8) (Eq.trans (if_neg c_9) (Eq.trans (if_neg c_10) (Eq.trans (if_neg c_11) (Eq.trans (if_neg c_12) (Eq.trans (if_neg c_14) (Eq.trans (if_pos c_15) (if_pos c_16))))))))))))))))
  have nc_1 := lv_neT c_1 (a := 0) (by decide)
  have nc_2 := lv_neT c_2 (a := 1) (by decide)
  have nc_3 := lv_neT c_3 (a := 2) (by decide)
  have nc_4 := lv_neT c_4 (a := 3) (by decide)
  have nc_5 := lv_neT c_5 (a := 4) (by decide)
  have nc_6 := lv_neT c_6 (a := 5) (by decide)
  have nc_7 := lv_neT c_7 (a := 6) (by decide)
  have nc_8 := lv_neT c_8 (a := 7) (by decide)
  have nc_9 := lv_neT c_9 (a := 8) (by decide)
  have nc_10 := lv_neT c_10 (a := 9) (by decide)
  have nc_11 := lv_neT c_11 (a := 10) (by decide)
  have nc_12 := lv_neT c_12 (a := 11) (by decide)
  have nc_14 := lv_neT c_14 (a := 12) (by decide)
  have nc_15 := lv_neT c_15 (a := 13) (by decide)
  refine lv_tableOut (tgt := 181) hx hb dX0_timeField_6 (by omega) (by decide) ?_
  refine lv_iload_n hx hb dX0_timeField_181 rfl (lv_at hl 0 rfl) ?_
  refine lv_bipush (v := (12 : Int32)) hx hb dX0_timeField_182 qb_12 ?_
  refine lv_icmp_ge (tgt := 191) hx hb dX0_timeField_184 (by decide) (fun c_17 => ?_) (fun c_17 => ?_)
  · refine lv_lconst (v := (1 : Int64)) hx hb dX0_timeField_191 ql_1 ?_
    exact re_l hx hb hr hk dX0_timeField_192 (el (Eq.trans (if_neg c_1) (Eq.trans (if_neg c_2) (Eq.trans (if_neg c_3) (Eq.trans (if_neg c_4) (Eq.trans (if_neg c_5) (Eq.trans (if_neg c_6) (Eq.trans (if_neg c_7) (Eq.trans (if_neg c_8) (Eq.trans (if_neg c_9) (Eq.trans (if_neg c_10) (Eq.trans (if_neg c_11) (Eq.trans (if_neg c_12) (Eq.trans (if_neg c_14) (Eq.trans (if_neg c_15) (if_pos c_17))))))))))))))))
  · refine lv_lconst (v := (0 : Int64)) hx hb dX0_timeField_187 ql_0 ?_
    refine lv_goto (tgt := 192) hx hb dX0_timeField_188 (by decide) ?_
    exact re_l hx hb hr hk dX0_timeField_192 (el (Eq.trans (if_neg c_1) (Eq.trans (if_neg c_2) (Eq.trans (if_neg c_3) (Eq.trans (if_neg c_4) (Eq.trans (if_neg c_5) (Eq.trans (if_neg c_6) (Eq.trans (if_neg c_7) (Eq.trans (if_neg c_8) (Eq.trans (if_neg c_9) (Eq.trans (if_neg c_10) (Eq.trans (if_neg c_11) (Eq.trans (if_neg c_12) (Eq.trans (if_neg c_14) (Eq.trans (if_neg c_15) (if_neg c_17))))))))))))))))

set_option maxRecDepth 100000 in
set_option maxHeartbeats 4000000 in
theorem c_X0_mix (l : Launch) (G : GT) (p0 : Int64) (p1 : Int64) : RO l G yX0_mix cX0_mix 4 (some .long) 1 [.long p0, .long p1] [] (some (.long (fX0_mix p0 p1))) := by
  refine RO.ofW (own := RX0) rfl (plainFor_of_name pnN_RX0) (Nat.le_of_ble_eq_true rfl) ?_
  intro p e s m below meth c C hr hk hE hP ls hl
  have hx := C.1
  have hb := C.2.1
  have hown := C.2.2.2.1
  have hw := C.2.2.2.2
  have hl : lv_has ls 4 [(0, .long p0), (2, .long p1)] := hl
  refine lv_lload_n hx hb dX0_mix_0 rfl (lv_at hl 0 rfl) ?_
  refine lv_ldc2 (v := (31 : Int64)) hx hb hown (hw _ bw261) dX0_mix_1 ?_
  refine lv_lmul hx hb dX0_mix_4 ?_
  refine lv_lload_n hx hb dX0_mix_5 rfl (lv_at hl 1 rfl) ?_
  refine lv_ladd hx hb dX0_mix_6 ?_
  exact re_l hx hb hr hk dX0_mix_7 (el rfl)

set_option maxRecDepth 100000 in
set_option maxHeartbeats 4000000 in
theorem c_X0_isCutWell (l : Launch) (G : GT) (p0 : Int64) : RO l G yX0_isCutWell cX0_isCutWell 5 (some .boolean) 3 [.long p0] [] (some (.int (fX0_isCutWell p0))) := by
  refine RO.ofW (own := RX0) rfl (plainFor_of_name pnN_RX0) (Nat.le_of_ble_eq_true rfl) ?_
  intro p e s m below meth c C hr hk hE hP ls hl
  have hx := C.1
  have hb := C.2.1
  have hown := C.2.2.2.1
  have hw := C.2.2.2.2
  have hl : lv_has ls 5 [(0, .long p0)] := hl
  refine lv_iconst (v := (0 : Int32)) hx hb dX0_isCutWell_0 qi_0 ?_
  refine lv_istore_n (lv' := [(2, .int (0 : Int32)), (0, .long p0)]) hx hb dX0_isCutWell_1 rfl hl (Nat.le_of_ble_eq_true rfl) rfl (fun ls hl => ?_)
  refine lv_iload_n hx hb dX0_isCutWell_2 rfl (lv_at hl 0 rfl) ?_
  refine lv_bipush (v := (7 : Int32)) hx hb dX0_isCutWell_3 qb_7 ?_
  refine lv_icmp_gt (tgt := 38) hx hb dX0_isCutWell_5 (by decide) (fun c_x => absurd c_x (by decide)) (fun _ => ?_)
  refine lv_lload_n hx hb dX0_isCutWell_8 rfl (lv_at hl 1 rfl) ?_
  refine lv_iload_n hx hb dX0_isCutWell_9 rfl (lv_at hl 0 rfl) ?_
  refine rcSl (as := [.long p0, .int (0 : Int32)]) (rest := []) C (c_X0_cutNano l G p0 (0 : Int32)) F_X0_cutNano rfl bw220 bw221 hE vpn hl.1 dX0_isCutWell_10 ⟨Nat.le_of_ble_eq_true rfl, Nat.le_of_ble_eq_true rfl⟩ rfl (Nat.le_of_ble_eq_true rfl) ⟨Nat.zero_le _, Nat.zero_le _⟩ ?_
  refine lv_lstore_n (lv' := [(3, .long (fX0_cutNano p0 (0 : Int32))), (2, .int (0 : Int32)), (0, .long p0)]) hx hb dX0_isCutWell_13 rfl hl (Nat.le_of_ble_eq_true rfl) rfl (fun ls hl => ?_)
  refine lv_lload_n hx hb dX0_isCutWell_14 rfl (lv_at hl 0 rfl) ?_
  refine lv_lload_n hx hb dX0_isCutWell_15 rfl (lv_at hl 2 rfl) ?_
  refine W.lcmp hx hb dX0_isCutWell_16 ?_
  refine lv_if_gt (tgt := 30) hx hb dX0_isCutWell_17 (by decide) (fun c_1 => ?_) (fun c_1 => ?_)
  · refine lv_iconst (v := (0 : Int32)) hx hb dX0_isCutWell_30 qi_0 ?_
    exact re_z (ty := .boolean) hx hb hr hk (by decide) dX0_isCutWell_31 (ei (if_pos c_1))
  · refine lv_lload_n hx hb dX0_isCutWell_20 rfl (lv_at hl 0 rfl) ?_
    refine lv_iload_n hx hb dX0_isCutWell_21 rfl (lv_at hl 1 rfl) ?_
    refine rcSl (as := [.long (fX0_cutNano p0 (0 : Int32)), .int (0 : Int32)]) (rest := []) C (c_X0_cutNano l G (fX0_cutNano p0 (0 : Int32)) (0 : Int32)) F_X0_cutNano rfl bw220 bw221 hE vpn hl.1 dX0_isCutWell_22 ⟨Nat.le_of_ble_eq_true rfl, Nat.le_of_ble_eq_true rfl⟩ rfl (Nat.le_of_ble_eq_true rfl) ⟨Nat.zero_le _, Nat.zero_le _⟩ ?_
    refine lv_lload_n hx hb dX0_isCutWell_25 rfl (lv_at hl 0 rfl) ?_
    refine W.lcmp hx hb dX0_isCutWell_26 ?_
    refine lv_if_eq (tgt := 32) hx hb dX0_isCutWell_27 (by decide) (fun c_2 => ?_) (fun c_2 => ?_)
    · refine lv_iinc (v := (1 : Int32)) (lv' := [(2, .int (1 : Int32)), (3, .long (fX0_cutNano p0 (0 : Int32))), (0, .long p0)]) hx hb dX0_isCutWell_32 hl (k := 1) rfl (by first | rfl | decide) (Nat.le_of_ble_eq_true rfl) rfl (fun ls hl => ?_)
      refine lv_goto (tgt := 2) hx hb dX0_isCutWell_35 (by decide) ?_
      refine lv_iload_n hx hb dX0_isCutWell_2 rfl (lv_at hl 0 rfl) ?_
      refine lv_bipush (v := (7 : Int32)) hx hb dX0_isCutWell_3 qb_7 ?_
      refine lv_icmp_gt (tgt := 38) hx hb dX0_isCutWell_5 (by decide) (fun c_x => absurd c_x (by decide)) (fun _ => ?_)
      refine lv_lload_n hx hb dX0_isCutWell_8 rfl (lv_at hl 2 rfl) ?_
      refine lv_iload_n hx hb dX0_isCutWell_9 rfl (lv_at hl 0 rfl) ?_
      refine rcSl (as := [.long p0, .int (1 : Int32)]) (rest := []) C (c_X0_cutNano l G p0 (1 : Int32)) F_X0_cutNano rfl bw220 bw221 hE vpn hl.1 dX0_isCutWell_10 ⟨Nat.le_of_ble_eq_true rfl, Nat.le_of_ble_eq_true rfl⟩ rfl (Nat.le_of_ble_eq_true rfl) ⟨Nat.zero_le _, Nat.zero_le _⟩ ?_
      refine lv_lstore_n (lv' := [(3, .long (fX0_cutNano p0 (1 : Int32))), (2, .int (1 : Int32)), (0, .long p0)]) hx hb dX0_isCutWell_13 rfl hl (Nat.le_of_ble_eq_true rfl) rfl (fun ls hl => ?_)
      refine lv_lload_n hx hb dX0_isCutWell_14 rfl (lv_at hl 0 rfl) ?_
      refine lv_lload_n hx hb dX0_isCutWell_15 rfl (lv_at hl 2 rfl) ?_
      refine W.lcmp hx hb dX0_isCutWell_16 ?_
      refine lv_if_gt (tgt := 30) hx hb dX0_isCutWell_17 (by decide) (fun c_3 => ?_) (fun c_3 => ?_)
      · refine lv_iconst (v := (0 : Int32)) hx hb dX0_isCutWell_30 qi_0 ?_
        exact re_z (ty := .boolean) hx hb hr hk (by decide) dX0_isCutWell_31 (ei (Eq.trans (if_neg c_1) (Eq.trans (if_pos c_2) (if_pos c_3))))
      · refine lv_lload_n hx hb dX0_isCutWell_20 rfl (lv_at hl 0 rfl) ?_
        refine lv_iload_n hx hb dX0_isCutWell_21 rfl (lv_at hl 1 rfl) ?_
        refine rcSl (as := [.long (fX0_cutNano p0 (1 : Int32)), .int (1 : Int32)]) (rest := []) C (c_X0_cutNano l G (fX0_cutNano p0 (1 : Int32)) (1 : Int32)) F_X0_cutNano rfl bw220 bw221 hE vpn hl.1 dX0_isCutWell_22 ⟨Nat.le_of_ble_eq_true rfl, Nat.le_of_ble_eq_true rfl⟩ rfl (Nat.le_of_ble_eq_true rfl) ⟨Nat.zero_le _, Nat.zero_le _⟩ ?_
        refine lv_lload_n hx hb dX0_isCutWell_25 rfl (lv_at hl 0 rfl) ?_
        refine W.lcmp hx hb dX0_isCutWell_26 ?_
        refine lv_if_eq (tgt := 32) hx hb dX0_isCutWell_27 (by decide) (fun c_4 => ?_) (fun c_4 => ?_)
        · refine lv_iinc (v := (2 : Int32)) (lv' := [(2, .int (2 : Int32)), (3, .long (fX0_cutNano p0 (1 : Int32))), (0, .long p0)]) hx hb dX0_isCutWell_32 hl (k := 1) rfl (by first | rfl | decide) (Nat.le_of_ble_eq_true rfl) rfl (fun ls hl => ?_)
          refine lv_goto (tgt := 2) hx hb dX0_isCutWell_35 (by decide) ?_
          refine lv_iload_n hx hb dX0_isCutWell_2 rfl (lv_at hl 0 rfl) ?_
          refine lv_bipush (v := (7 : Int32)) hx hb dX0_isCutWell_3 qb_7 ?_
          refine lv_icmp_gt (tgt := 38) hx hb dX0_isCutWell_5 (by decide) (fun c_x => absurd c_x (by decide)) (fun _ => ?_)
          refine lv_lload_n hx hb dX0_isCutWell_8 rfl (lv_at hl 2 rfl) ?_
          refine lv_iload_n hx hb dX0_isCutWell_9 rfl (lv_at hl 0 rfl) ?_
          refine rcSl (as := [.long p0, .int (2 : Int32)]) (rest := []) C (c_X0_cutNano l G p0 (2 : Int32)) F_X0_cutNano rfl bw220 bw221 hE vpn hl.1 dX0_isCutWell_10 ⟨Nat.le_of_ble_eq_true rfl, Nat.le_of_ble_eq_true rfl⟩ rfl (Nat.le_of_ble_eq_true rfl) ⟨Nat.zero_le _, Nat.zero_le _⟩ ?_
          refine lv_lstore_n (lv' := [(3, .long (fX0_cutNano p0 (2 : Int32))), (2, .int (2 : Int32)), (0, .long p0)]) hx hb dX0_isCutWell_13 rfl hl (Nat.le_of_ble_eq_true rfl) rfl (fun ls hl => ?_)
          refine lv_lload_n hx hb dX0_isCutWell_14 rfl (lv_at hl 0 rfl) ?_
          refine lv_lload_n hx hb dX0_isCutWell_15 rfl (lv_at hl 2 rfl) ?_
          refine W.lcmp hx hb dX0_isCutWell_16 ?_
          refine lv_if_gt (tgt := 30) hx hb dX0_isCutWell_17 (by decide) (fun c_5 => ?_) (fun c_5 => ?_)
          · refine lv_iconst (v := (0 : Int32)) hx hb dX0_isCutWell_30 qi_0 ?_
            exact re_z (ty := .boolean) hx hb hr hk (by decide) dX0_isCutWell_31 (ei (Eq.trans (if_neg c_1) (Eq.trans (if_pos c_2) (Eq.trans (if_neg c_3) (Eq.trans (if_pos c_4) (if_pos c_5))))))
          · refine lv_lload_n hx hb dX0_isCutWell_20 rfl (lv_at hl 0 rfl) ?_
            refine lv_iload_n hx hb dX0_isCutWell_21 rfl (lv_at hl 1 rfl) ?_
            refine rcSl (as := [.long (fX0_cutNano p0 (2 : Int32)), .int (2 : Int32)]) (rest := []) C (c_X0_cutNano l G (fX0_cutNano p0 (2 : Int32)) (2 : Int32)) F_X0_cutNano rfl bw220 bw221 hE vpn hl.1 dX0_isCutWell_22 ⟨Nat.le_of_ble_eq_true rfl, Nat.le_of_ble_eq_true rfl⟩ rfl (Nat.le_of_ble_eq_true rfl) ⟨Nat.zero_le _, Nat.zero_le _⟩ ?_
            refine lv_lload_n hx hb dX0_isCutWell_25 rfl (lv_at hl 0 rfl) ?_
            refine W.lcmp hx hb dX0_isCutWell_26 ?_
            refine lv_if_eq (tgt := 32) hx hb dX0_isCutWell_27 (by decide) (fun c_6 => ?_) (fun c_6 => ?_)
            · refine lv_iinc (v := (3 : Int32)) (lv' := [(2, .int (3 : Int32)), (3, .long (fX0_cutNano p0 (2 : Int32))), (0, .long p0)]) hx hb dX0_isCutWell_32 hl (k := 1) rfl (by first | rfl | decide) (Nat.le_of_ble_eq_true rfl) rfl (fun ls hl => ?_)
              refine lv_goto (tgt := 2) hx hb dX0_isCutWell_35 (by decide) ?_
              refine lv_iload_n hx hb dX0_isCutWell_2 rfl (lv_at hl 0 rfl) ?_
              refine lv_bipush (v := (7 : Int32)) hx hb dX0_isCutWell_3 qb_7 ?_
              refine lv_icmp_gt (tgt := 38) hx hb dX0_isCutWell_5 (by decide) (fun c_x => absurd c_x (by decide)) (fun _ => ?_)
              refine lv_lload_n hx hb dX0_isCutWell_8 rfl (lv_at hl 2 rfl) ?_
              refine lv_iload_n hx hb dX0_isCutWell_9 rfl (lv_at hl 0 rfl) ?_
              refine rcSl (as := [.long p0, .int (3 : Int32)]) (rest := []) C (c_X0_cutNano l G p0 (3 : Int32)) F_X0_cutNano rfl bw220 bw221 hE vpn hl.1 dX0_isCutWell_10 ⟨Nat.le_of_ble_eq_true rfl, Nat.le_of_ble_eq_true rfl⟩ rfl (Nat.le_of_ble_eq_true rfl) ⟨Nat.zero_le _, Nat.zero_le _⟩ ?_
              refine lv_lstore_n (lv' := [(3, .long (fX0_cutNano p0 (3 : Int32))), (2, .int (3 : Int32)), (0, .long p0)]) hx hb dX0_isCutWell_13 rfl hl (Nat.le_of_ble_eq_true rfl) rfl (fun ls hl => ?_)
              refine lv_lload_n hx hb dX0_isCutWell_14 rfl (lv_at hl 0 rfl) ?_
              refine lv_lload_n hx hb dX0_isCutWell_15 rfl (lv_at hl 2 rfl) ?_
              refine W.lcmp hx hb dX0_isCutWell_16 ?_
              refine lv_if_gt (tgt := 30) hx hb dX0_isCutWell_17 (by decide) (fun c_7 => ?_) (fun c_7 => ?_)
              · refine lv_iconst (v := (0 : Int32)) hx hb dX0_isCutWell_30 qi_0 ?_
                exact re_z (ty := .boolean) hx hb hr hk (by decide) dX0_isCutWell_31 (ei (Eq.trans (if_neg c_1) (Eq.trans (if_pos c_2) (Eq.trans (if_neg c_3) (Eq.trans (if_pos c_4) (Eq.trans (if_neg c_5) (Eq.trans (if_pos c_6) (if_pos c_7))))))))
              · refine lv_lload_n hx hb dX0_isCutWell_20 rfl (lv_at hl 0 rfl) ?_
                refine lv_iload_n hx hb dX0_isCutWell_21 rfl (lv_at hl 1 rfl) ?_
                refine rcSl (as := [.long (fX0_cutNano p0 (3 : Int32)), .int (3 : Int32)]) (rest := []) C (c_X0_cutNano l G (fX0_cutNano p0 (3 : Int32)) (3 : Int32)) F_X0_cutNano rfl bw220 bw221 hE vpn hl.1 dX0_isCutWell_22 ⟨Nat.le_of_ble_eq_true rfl, Nat.le_of_ble_eq_true rfl⟩ rfl (Nat.le_of_ble_eq_true rfl) ⟨Nat.zero_le _, Nat.zero_le _⟩ ?_
                refine lv_lload_n hx hb dX0_isCutWell_25 rfl (lv_at hl 0 rfl) ?_
                refine W.lcmp hx hb dX0_isCutWell_26 ?_
                refine lv_if_eq (tgt := 32) hx hb dX0_isCutWell_27 (by decide) (fun c_8 => ?_) (fun c_8 => ?_)
                · refine lv_iinc (v := (4 : Int32)) (lv' := [(2, .int (4 : Int32)), (3, .long (fX0_cutNano p0 (3 : Int32))), (0, .long p0)]) hx hb dX0_isCutWell_32 hl (k := 1) rfl (by first | rfl | decide) (Nat.le_of_ble_eq_true rfl) rfl (fun ls hl => ?_)
                  refine lv_goto (tgt := 2) hx hb dX0_isCutWell_35 (by decide) ?_
                  refine lv_iload_n hx hb dX0_isCutWell_2 rfl (lv_at hl 0 rfl) ?_
                  refine lv_bipush (v := (7 : Int32)) hx hb dX0_isCutWell_3 qb_7 ?_
                  refine lv_icmp_gt (tgt := 38) hx hb dX0_isCutWell_5 (by decide) (fun c_x => absurd c_x (by decide)) (fun _ => ?_)
                  refine lv_lload_n hx hb dX0_isCutWell_8 rfl (lv_at hl 2 rfl) ?_
                  refine lv_iload_n hx hb dX0_isCutWell_9 rfl (lv_at hl 0 rfl) ?_
                  refine rcSl (as := [.long p0, .int (4 : Int32)]) (rest := []) C (c_X0_cutNano l G p0 (4 : Int32)) F_X0_cutNano rfl bw220 bw221 hE vpn hl.1 dX0_isCutWell_10 ⟨Nat.le_of_ble_eq_true rfl, Nat.le_of_ble_eq_true rfl⟩ rfl (Nat.le_of_ble_eq_true rfl) ⟨Nat.zero_le _, Nat.zero_le _⟩ ?_
                  refine lv_lstore_n (lv' := [(3, .long (fX0_cutNano p0 (4 : Int32))), (2, .int (4 : Int32)), (0, .long p0)]) hx hb dX0_isCutWell_13 rfl hl (Nat.le_of_ble_eq_true rfl) rfl (fun ls hl => ?_)
                  refine lv_lload_n hx hb dX0_isCutWell_14 rfl (lv_at hl 0 rfl) ?_
                  refine lv_lload_n hx hb dX0_isCutWell_15 rfl (lv_at hl 2 rfl) ?_
                  refine W.lcmp hx hb dX0_isCutWell_16 ?_
                  refine lv_if_gt (tgt := 30) hx hb dX0_isCutWell_17 (by decide) (fun c_9 => ?_) (fun c_9 => ?_)
                  · refine lv_iconst (v := (0 : Int32)) hx hb dX0_isCutWell_30 qi_0 ?_
                    exact re_z (ty := .boolean) hx hb hr hk (by decide) dX0_isCutWell_31 (ei (Eq.trans (if_neg c_1) (Eq.trans (if_pos c_2) (Eq.trans (if_neg c_3) (Eq.trans (if_pos c_4) (Eq.trans (if_neg c_5) (Eq.trans (if_pos c_6) (Eq.trans (if_neg c_7) (Eq.trans (if_pos c_8) (if_pos c_9))))))))))
                  · refine lv_lload_n hx hb dX0_isCutWell_20 rfl (lv_at hl 0 rfl) ?_
                    refine lv_iload_n hx hb dX0_isCutWell_21 rfl (lv_at hl 1 rfl) ?_
                    refine rcSl (as := [.long (fX0_cutNano p0 (4 : Int32)), .int (4 : Int32)]) (rest := []) C (c_X0_cutNano l G (fX0_cutNano p0 (4 : Int32)) (4 : Int32)) F_X0_cutNano rfl bw220 bw221 hE vpn hl.1 dX0_isCutWell_22 ⟨Nat.le_of_ble_eq_true rfl, Nat.le_of_ble_eq_true rfl⟩ rfl (Nat.le_of_ble_eq_true rfl) ⟨Nat.zero_le _, Nat.zero_le _⟩ ?_
                    refine lv_lload_n hx hb dX0_isCutWell_25 rfl (lv_at hl 0 rfl) ?_
                    refine W.lcmp hx hb dX0_isCutWell_26 ?_
                    refine lv_if_eq (tgt := 32) hx hb dX0_isCutWell_27 (by decide) (fun c_10 => ?_) (fun c_10 => ?_)
                    · refine lv_iinc (v := (5 : Int32)) (lv' := [(2, .int (5 : Int32)), (3, .long (fX0_cutNano p0 (4 : Int32))), (0, .long p0)]) hx hb dX0_isCutWell_32 hl (k := 1) rfl (by first | rfl | decide) (Nat.le_of_ble_eq_true rfl) rfl (fun ls hl => ?_)
                      refine lv_goto (tgt := 2) hx hb dX0_isCutWell_35 (by decide) ?_
                      refine lv_iload_n hx hb dX0_isCutWell_2 rfl (lv_at hl 0 rfl) ?_
                      refine lv_bipush (v := (7 : Int32)) hx hb dX0_isCutWell_3 qb_7 ?_
                      refine lv_icmp_gt (tgt := 38) hx hb dX0_isCutWell_5 (by decide) (fun c_x => absurd c_x (by decide)) (fun _ => ?_)
                      refine lv_lload_n hx hb dX0_isCutWell_8 rfl (lv_at hl 2 rfl) ?_
                      refine lv_iload_n hx hb dX0_isCutWell_9 rfl (lv_at hl 0 rfl) ?_
                      refine rcSl (as := [.long p0, .int (5 : Int32)]) (rest := []) C (c_X0_cutNano l G p0 (5 : Int32)) F_X0_cutNano rfl bw220 bw221 hE vpn hl.1 dX0_isCutWell_10 ⟨Nat.le_of_ble_eq_true rfl, Nat.le_of_ble_eq_true rfl⟩ rfl (Nat.le_of_ble_eq_true rfl) ⟨Nat.zero_le _, Nat.zero_le _⟩ ?_
                      refine lv_lstore_n (lv' := [(3, .long (fX0_cutNano p0 (5 : Int32))), (2, .int (5 : Int32)), (0, .long p0)]) hx hb dX0_isCutWell_13 rfl hl (Nat.le_of_ble_eq_true rfl) rfl (fun ls hl => ?_)
                      refine lv_lload_n hx hb dX0_isCutWell_14 rfl (lv_at hl 0 rfl) ?_
                      refine lv_lload_n hx hb dX0_isCutWell_15 rfl (lv_at hl 2 rfl) ?_
                      refine W.lcmp hx hb dX0_isCutWell_16 ?_
                      refine lv_if_gt (tgt := 30) hx hb dX0_isCutWell_17 (by decide) (fun c_11 => ?_) (fun c_11 => ?_)
                      · refine lv_iconst (v := (0 : Int32)) hx hb dX0_isCutWell_30 qi_0 ?_
                        exact re_z (ty := .boolean) hx hb hr hk (by decide) dX0_isCutWell_31 (ei (Eq.trans (if_neg c_1) (Eq.trans (if_pos c_2) (Eq.trans (if_neg c_3) (Eq.trans (if_pos c_4) (Eq.trans (if_neg c_5) (Eq.trans (if_pos c_6) (Eq.trans (if_neg c_7) (Eq.trans (if_pos c_8) (Eq.trans (if_neg c_9) (Eq.trans (if_pos c_10) (if_pos c_11))))))))))))
                      · refine lv_lload_n hx hb dX0_isCutWell_20 rfl (lv_at hl 0 rfl) ?_
                        refine lv_iload_n hx hb dX0_isCutWell_21 rfl (lv_at hl 1 rfl) ?_
                        refine rcSl (as := [.long (fX0_cutNano p0 (5 : Int32)), .int (5 : Int32)]) (rest := []) C (c_X0_cutNano l G (fX0_cutNano p0 (5 : Int32)) (5 : Int32)) F_X0_cutNano rfl bw220 bw221 hE vpn hl.1 dX0_isCutWell_22 ⟨Nat.le_of_ble_eq_true rfl, Nat.le_of_ble_eq_true rfl⟩ rfl (Nat.le_of_ble_eq_true rfl) ⟨Nat.zero_le _, Nat.zero_le _⟩ ?_
                        refine lv_lload_n hx hb dX0_isCutWell_25 rfl (lv_at hl 0 rfl) ?_
                        refine W.lcmp hx hb dX0_isCutWell_26 ?_
                        refine lv_if_eq (tgt := 32) hx hb dX0_isCutWell_27 (by decide) (fun c_12 => ?_) (fun c_12 => ?_)
                        · refine lv_iinc (v := (6 : Int32)) (lv' := [(2, .int (6 : Int32)), (3, .long (fX0_cutNano p0 (5 : Int32))), (0, .long p0)]) hx hb dX0_isCutWell_32 hl (k := 1) rfl (by first | rfl | decide) (Nat.le_of_ble_eq_true rfl) rfl (fun ls hl => ?_)
                          refine lv_goto (tgt := 2) hx hb dX0_isCutWell_35 (by decide) ?_
                          refine lv_iload_n hx hb dX0_isCutWell_2 rfl (lv_at hl 0 rfl) ?_
                          refine lv_bipush (v := (7 : Int32)) hx hb dX0_isCutWell_3 qb_7 ?_
                          refine lv_icmp_gt (tgt := 38) hx hb dX0_isCutWell_5 (by decide) (fun c_x => absurd c_x (by decide)) (fun _ => ?_)
                          refine lv_lload_n hx hb dX0_isCutWell_8 rfl (lv_at hl 2 rfl) ?_
                          refine lv_iload_n hx hb dX0_isCutWell_9 rfl (lv_at hl 0 rfl) ?_
                          refine rcSl (as := [.long p0, .int (6 : Int32)]) (rest := []) C (c_X0_cutNano l G p0 (6 : Int32)) F_X0_cutNano rfl bw220 bw221 hE vpn hl.1 dX0_isCutWell_10 ⟨Nat.le_of_ble_eq_true rfl, Nat.le_of_ble_eq_true rfl⟩ rfl (Nat.le_of_ble_eq_true rfl) ⟨Nat.zero_le _, Nat.zero_le _⟩ ?_
                          refine lv_lstore_n (lv' := [(3, .long (fX0_cutNano p0 (6 : Int32))), (2, .int (6 : Int32)), (0, .long p0)]) hx hb dX0_isCutWell_13 rfl hl (Nat.le_of_ble_eq_true rfl) rfl (fun ls hl => ?_)
                          refine lv_lload_n hx hb dX0_isCutWell_14 rfl (lv_at hl 0 rfl) ?_
                          refine lv_lload_n hx hb dX0_isCutWell_15 rfl (lv_at hl 2 rfl) ?_
                          refine W.lcmp hx hb dX0_isCutWell_16 ?_
                          refine lv_if_gt (tgt := 30) hx hb dX0_isCutWell_17 (by decide) (fun c_13 => ?_) (fun c_13 => ?_)
                          · refine lv_iconst (v := (0 : Int32)) hx hb dX0_isCutWell_30 qi_0 ?_
                            exact re_z (ty := .boolean) hx hb hr hk (by decide) dX0_isCutWell_31 (ei (Eq.trans (if_neg c_1) (Eq.trans (if_pos c_2) (Eq.trans (if_neg c_3) (Eq.trans (if_pos c_4) (Eq.trans (if_neg c_5) (Eq.trans (if_pos c_6) (Eq.trans (if_neg c_7) (Eq.trans (if_pos c_8) (Eq.trans (if_neg c_9) (Eq.trans (if_pos c_10) (Eq.trans (if_neg c_11) (Eq.trans (if_pos c_12) (if_pos c_13))))))))))))))
                          · refine lv_lload_n hx hb dX0_isCutWell_20 rfl (lv_at hl 0 rfl) ?_
                            refine lv_iload_n hx hb dX0_isCutWell_21 rfl (lv_at hl 1 rfl) ?_
                            refine rcSl (as := [.long (fX0_cutNano p0 (6 : Int32)), .int (6 : Int32)]) (rest := []) C (c_X0_cutNano l G (fX0_cutNano p0 (6 : Int32)) (6 : Int32)) F_X0_cutNano rfl bw220 bw221 hE vpn hl.1 dX0_isCutWell_22 ⟨Nat.le_of_ble_eq_true rfl, Nat.le_of_ble_eq_true rfl⟩ rfl (Nat.le_of_ble_eq_true rfl) ⟨Nat.zero_le _, Nat.zero_le _⟩ ?_
                            refine lv_lload_n hx hb dX0_isCutWell_25 rfl (lv_at hl 0 rfl) ?_
                            refine W.lcmp hx hb dX0_isCutWell_26 ?_
                            refine lv_if_eq (tgt := 32) hx hb dX0_isCutWell_27 (by decide) (fun c_14 => ?_) (fun c_14 => ?_)
                            · refine lv_iinc (v := (7 : Int32)) (lv' := [(2, .int (7 : Int32)), (3, .long (fX0_cutNano p0 (6 : Int32))), (0, .long p0)]) hx hb dX0_isCutWell_32 hl (k := 1) rfl (by first | rfl | decide) (Nat.le_of_ble_eq_true rfl) rfl (fun ls hl => ?_)
                              refine lv_goto (tgt := 2) hx hb dX0_isCutWell_35 (by decide) ?_
                              refine lv_iload_n hx hb dX0_isCutWell_2 rfl (lv_at hl 0 rfl) ?_
                              refine lv_bipush (v := (7 : Int32)) hx hb dX0_isCutWell_3 qb_7 ?_
                              refine lv_icmp_gt (tgt := 38) hx hb dX0_isCutWell_5 (by decide) (fun c_x => absurd c_x (by decide)) (fun _ => ?_)
                              refine lv_lload_n hx hb dX0_isCutWell_8 rfl (lv_at hl 2 rfl) ?_
                              refine lv_iload_n hx hb dX0_isCutWell_9 rfl (lv_at hl 0 rfl) ?_
                              refine rcSl (as := [.long p0, .int (7 : Int32)]) (rest := []) C (c_X0_cutNano l G p0 (7 : Int32)) F_X0_cutNano rfl bw220 bw221 hE vpn hl.1 dX0_isCutWell_10 ⟨Nat.le_of_ble_eq_true rfl, Nat.le_of_ble_eq_true rfl⟩ rfl (Nat.le_of_ble_eq_true rfl) ⟨Nat.zero_le _, Nat.zero_le _⟩ ?_
                              refine lv_lstore_n (lv' := [(3, .long (fX0_cutNano p0 (7 : Int32))), (2, .int (7 : Int32)), (0, .long p0)]) hx hb dX0_isCutWell_13 rfl hl (Nat.le_of_ble_eq_true rfl) rfl (fun ls hl => ?_)
                              refine lv_lload_n hx hb dX0_isCutWell_14 rfl (lv_at hl 0 rfl) ?_
                              refine lv_lload_n hx hb dX0_isCutWell_15 rfl (lv_at hl 2 rfl) ?_
                              refine W.lcmp hx hb dX0_isCutWell_16 ?_
                              refine lv_if_gt (tgt := 30) hx hb dX0_isCutWell_17 (by decide) (fun c_15 => ?_) (fun c_15 => ?_)
                              · refine lv_iconst (v := (0 : Int32)) hx hb dX0_isCutWell_30 qi_0 ?_
                                exact re_z (ty := .boolean) hx hb hr hk (by decide) dX0_isCutWell_31 (ei (Eq.trans (if_neg c_1) (Eq.trans (if_pos c_2) (Eq.trans (if_neg c_3) (Eq.trans (if_pos c_4) (Eq.trans (if_neg c_5) (Eq.trans (if_pos c_6) (Eq.trans (if_neg c_7) (Eq.trans (if_pos c_8) (Eq.trans (if_neg c_9) (Eq.trans (if_pos c_10) (Eq.trans (if_neg c_11) (Eq.trans (if_pos c_12) (Eq.trans (if_neg c_13) (Eq.trans (if_pos c_14) (if_pos c_15))))))))))))))))
                              · refine lv_lload_n hx hb dX0_isCutWell_20 rfl (lv_at hl 0 rfl) ?_
                                refine lv_iload_n hx hb dX0_isCutWell_21 rfl (lv_at hl 1 rfl) ?_
                                refine rcSl (as := [.long (fX0_cutNano p0 (7 : Int32)), .int (7 : Int32)]) (rest := []) C (c_X0_cutNano l G (fX0_cutNano p0 (7 : Int32)) (7 : Int32)) F_X0_cutNano rfl bw220 bw221 hE vpn hl.1 dX0_isCutWell_22 ⟨Nat.le_of_ble_eq_true rfl, Nat.le_of_ble_eq_true rfl⟩ rfl (Nat.le_of_ble_eq_true rfl) ⟨Nat.zero_le _, Nat.zero_le _⟩ ?_
                                refine lv_lload_n hx hb dX0_isCutWell_25 rfl (lv_at hl 0 rfl) ?_
                                refine W.lcmp hx hb dX0_isCutWell_26 ?_
                                refine lv_if_eq (tgt := 32) hx hb dX0_isCutWell_27 (by decide) (fun c_16 => ?_) (fun c_16 => ?_)
                                · refine lv_iinc (v := (8 : Int32)) (lv' := [(2, .int (8 : Int32)), (3, .long (fX0_cutNano p0 (7 : Int32))), (0, .long p0)]) hx hb dX0_isCutWell_32 hl (k := 1) rfl (by first | rfl | decide) (Nat.le_of_ble_eq_true rfl) rfl (fun ls hl => ?_)
                                  refine lv_goto (tgt := 2) hx hb dX0_isCutWell_35 (by decide) ?_
                                  refine lv_iload_n hx hb dX0_isCutWell_2 rfl (lv_at hl 0 rfl) ?_
                                  refine lv_bipush (v := (7 : Int32)) hx hb dX0_isCutWell_3 qb_7 ?_
                                  refine lv_icmp_gt (tgt := 38) hx hb dX0_isCutWell_5 (by decide) (fun _ => ?_) (fun c_x => absurd (show (7 : Int32) < (8 : Int32) from by decide) c_x)
                                  refine lv_iconst (v := (1 : Int32)) hx hb dX0_isCutWell_38 qi_1 ?_
                                  exact re_z (ty := .boolean) hx hb hr hk (by decide) dX0_isCutWell_39 (ei (Eq.trans (if_neg c_1) (Eq.trans (if_pos c_2) (Eq.trans (if_neg c_3) (Eq.trans (if_pos c_4) (Eq.trans (if_neg c_5) (Eq.trans (if_pos c_6) (Eq.trans (if_neg c_7) (Eq.trans (if_pos c_8) (Eq.trans (if_neg c_9) (Eq.trans (if_pos c_10) (Eq.trans (if_neg c_11) (Eq.trans (if_pos c_12) (Eq.trans (if_neg c_13) (Eq.trans (if_pos c_14) (Eq.trans (if_neg c_15) (if_pos c_16)))))))))))))))))
                                · refine lv_iconst (v := (0 : Int32)) hx hb dX0_isCutWell_30 qi_0 ?_
                                  exact re_z (ty := .boolean) hx hb hr hk (by decide) dX0_isCutWell_31 (ei (Eq.trans (if_neg c_1) (Eq.trans (if_pos c_2) (Eq.trans (if_neg c_3) (Eq.trans (if_pos c_4) (Eq.trans (if_neg c_5) (Eq.trans (if_pos c_6) (Eq.trans (if_neg c_7) (Eq.trans (if_pos c_8) (Eq.trans (if_neg c_9) (Eq.trans (if_pos c_10) (Eq.trans (if_neg c_11) (Eq.trans (if_pos c_12) (Eq.trans (if_neg c_13) (Eq.trans (if_pos c_14) (Eq.trans (if_neg c_15) (if_neg c_16)))))))))))))))))
                            · refine lv_iconst (v := (0 : Int32)) hx hb dX0_isCutWell_30 qi_0 ?_
                              exact re_z (ty := .boolean) hx hb hr hk (by decide) dX0_isCutWell_31 (ei (Eq.trans (if_neg c_1) (Eq.trans (if_pos c_2) (Eq.trans (if_neg c_3) (Eq.trans (if_pos c_4) (Eq.trans (if_neg c_5) (Eq.trans (if_pos c_6) (Eq.trans (if_neg c_7) (Eq.trans (if_pos c_8) (Eq.trans (if_neg c_9) (Eq.trans (if_pos c_10) (Eq.trans (if_neg c_11) (Eq.trans (if_pos c_12) (Eq.trans (if_neg c_13) (if_neg c_14)))))))))))))))
                        · refine lv_iconst (v := (0 : Int32)) hx hb dX0_isCutWell_30 qi_0 ?_
                          exact re_z (ty := .boolean) hx hb hr hk (by decide) dX0_isCutWell_31 (ei (Eq.trans (if_neg c_1) (Eq.trans (if_pos c_2) (Eq.trans (if_neg c_3) (Eq.trans (if_pos c_4) (Eq.trans (if_neg c_5) (Eq.trans (if_pos c_6) (Eq.trans (if_neg c_7) (Eq.trans (if_pos c_8) (Eq.trans (if_neg c_9) (Eq.trans (if_pos c_10) (Eq.trans (if_neg c_11) (if_neg c_12)))))))))))))
                    · refine lv_iconst (v := (0 : Int32)) hx hb dX0_isCutWell_30 qi_0 ?_
                      exact re_z (ty := .boolean) hx hb hr hk (by decide) dX0_isCutWell_31 (ei (Eq.trans (if_neg c_1) (Eq.trans (if_pos c_2) (Eq.trans (if_neg c_3) (Eq.trans (if_pos c_4) (Eq.trans (if_neg c_5) (Eq.trans (if_pos c_6) (Eq.trans (if_neg c_7) (Eq.trans (if_pos c_8) (Eq.trans (if_neg c_9) (if_neg c_10)))))))))))
                · refine lv_iconst (v := (0 : Int32)) hx hb dX0_isCutWell_30 qi_0 ?_
                  exact re_z (ty := .boolean) hx hb hr hk (by decide) dX0_isCutWell_31 (ei (Eq.trans (if_neg c_1) (Eq.trans (if_pos c_2) (Eq.trans (if_neg c_3) (Eq.trans (if_pos c_4) (Eq.trans (if_neg c_5) (Eq.trans (if_pos c_6) (Eq.trans (if_neg c_7) (if_neg c_8)))))))))
            · refine lv_iconst (v := (0 : Int32)) hx hb dX0_isCutWell_30 qi_0 ?_
              exact re_z (ty := .boolean) hx hb hr hk (by decide) dX0_isCutWell_31 (ei (Eq.trans (if_neg c_1) (Eq.trans (if_pos c_2) (Eq.trans (if_neg c_3) (Eq.trans (if_pos c_4) (Eq.trans (if_neg c_5) (if_neg c_6)))))))
        · refine lv_iconst (v := (0 : Int32)) hx hb dX0_isCutWell_30 qi_0 ?_
          exact re_z (ty := .boolean) hx hb hr hk (by decide) dX0_isCutWell_31 (ei (Eq.trans (if_neg c_1) (Eq.trans (if_pos c_2) (Eq.trans (if_neg c_3) (if_neg c_4)))))
    · refine lv_iconst (v := (0 : Int32)) hx hb dX0_isCutWell_30 qi_0 ?_
      exact re_z (ty := .boolean) hx hb hr hk (by decide) dX0_isCutWell_31 (ei (Eq.trans (if_neg c_1) (if_neg c_2)))

set_option maxRecDepth 100000 in
set_option maxHeartbeats 4000000 in
theorem c_X2_isLeapYear (l : Launch) (G : GT) (p0 : Int32) : RO l G yX2_isLeapYear cX2_isLeapYear 1 (some .boolean) 1 [.int p0] [] (some (.int (fX2_isLeapYear p0))) := by
  refine RO.ofW (own := RX2) rfl (plainFor_of_name pnN_RX2) (Nat.le_of_ble_eq_true rfl) ?_
  intro p e s m below meth c C hr hk hE hP ls hl
  have hx := C.1
  have hb := C.2.1
  have hown := C.2.2.2.1
  have hw := C.2.2.2.2
  have hl : lv_has ls 1 [(0, .int p0)] := hl
  refine lv_iload_n hx hb dX2_isLeapYear_0 rfl (lv_at hl 0 rfl) ?_
  refine lv_sipush (v := (400 : Int32)) hx hb dX2_isLeapYear_1 qs_400 ?_
  refine lv_irem hx hb dX2_isLeapYear_4 (by decide) ?_
  refine lv_if_eq (tgt := 21) hx hb dX2_isLeapYear_5 (by decide) (fun c_1 => ?_) (fun c_1 => ?_)
  · refine lv_iconst (v := (1 : Int32)) hx hb dX2_isLeapYear_21 qi_1 ?_
    refine lv_goto (tgt := 26) hx hb dX2_isLeapYear_22 (by decide) ?_
    exact re_z (ty := .boolean) hx hb hr hk (by decide) dX2_isLeapYear_26 (ei (if_pos c_1))
  · refine lv_iload_n hx hb dX2_isLeapYear_8 rfl (lv_at hl 0 rfl) ?_
    refine lv_iconst (v := (4 : Int32)) hx hb dX2_isLeapYear_9 qi_4 ?_
    refine lv_irem hx hb dX2_isLeapYear_10 (by decide) ?_
    refine lv_if_ne (tgt := 25) hx hb dX2_isLeapYear_11 (by decide) (fun c_2 => ?_) (fun c_2 => ?_)
    · refine lv_iconst (v := (0 : Int32)) hx hb dX2_isLeapYear_25 qi_0 ?_
      exact re_z (ty := .boolean) hx hb hr hk (by decide) dX2_isLeapYear_26 (ei (Eq.trans (if_neg c_1) (if_neg c_2)))
    · refine lv_iload_n hx hb dX2_isLeapYear_14 rfl (lv_at hl 0 rfl) ?_
      refine lv_bipush (v := (100 : Int32)) hx hb dX2_isLeapYear_15 qb_100 ?_
      refine lv_irem hx hb dX2_isLeapYear_17 (by decide) ?_
      refine lv_if_eq (tgt := 25) hx hb dX2_isLeapYear_18 (by decide) (fun c_3 => ?_) (fun c_3 => ?_)
      · refine lv_iconst (v := (0 : Int32)) hx hb dX2_isLeapYear_25 qi_0 ?_
        exact re_z (ty := .boolean) hx hb hr hk (by decide) dX2_isLeapYear_26 (ei (Eq.trans (if_neg c_1) (Eq.trans (if_pos c_2) (if_pos c_3))))
      · refine lv_iconst (v := (1 : Int32)) hx hb dX2_isLeapYear_21 qi_1 ?_
        refine lv_goto (tgt := 26) hx hb dX2_isLeapYear_22 (by decide) ?_
        exact re_z (ty := .boolean) hx hb hr hk (by decide) dX2_isLeapYear_26 (ei (Eq.trans (if_neg c_1) (Eq.trans (if_pos c_2) (if_neg c_3))))

set_option maxRecDepth 100000 in
set_option maxHeartbeats 4000000 in
theorem c_X2_daysOf (l : Launch) (G : GT) (p0 : Int32) (p1 : Int32) : RO l G yX2_daysOf cX2_daysOf 2 (some .int) 2 [.int p0, .int p1] [] (some (.int (fX2_daysOf p0 p1))) := by
  refine RO.ofW (own := RX2) rfl (plainFor_of_name pnN_RX2) (Nat.le_of_ble_eq_true rfl) ?_
  intro p e s m below meth c C hr hk hE hP ls hl
  have hx := C.1
  have hb := C.2.1
  have hown := C.2.2.2.1
  have hw := C.2.2.2.2
  have hl : lv_has ls 2 [(0, .int p0), (1, .int p1)] := hl
  refine lv_iload_n hx hb dX2_daysOf_0 rfl (lv_at hl 1 rfl) ?_
  refine lv_iconst (v := (2 : Int32)) hx hb dX2_daysOf_1 qi_2 ?_
  refine lv_icmp_ne (tgt := 20) hx hb dX2_daysOf_2 (by decide) (fun c_1 => ?_) (fun c_1 => ?_)
  · refine lv_iload_n hx hb dX2_daysOf_20 rfl (lv_at hl 1 rfl) ?_
    refine lv_iconst (v := (4 : Int32)) hx hb dX2_daysOf_21 qi_4 ?_
    refine lv_icmp_eq (tgt := 43) hx hb dX2_daysOf_22 (by decide) (fun c_2 => ?_) (fun c_2 => ?_)
    · refine lv_bipush (v := (30 : Int32)) hx hb dX2_daysOf_43 qb_30 ?_
      refine lv_goto (tgt := 50) hx hb dX2_daysOf_45 (by decide) ?_
      exact re_i hx hb hr hk dX2_daysOf_50 (ei (Eq.trans (if_neg c_1) (if_pos c_2)))
    · refine lv_iload_n hx hb dX2_daysOf_25 rfl (lv_at hl 1 rfl) ?_
      refine lv_bipush (v := (6 : Int32)) hx hb dX2_daysOf_26 qb_6 ?_
      refine lv_icmp_eq (tgt := 43) hx hb dX2_daysOf_28 (by decide) (fun c_3 => ?_) (fun c_3 => ?_)
      · refine lv_bipush (v := (30 : Int32)) hx hb dX2_daysOf_43 qb_30 ?_
        refine lv_goto (tgt := 50) hx hb dX2_daysOf_45 (by decide) ?_
        exact re_i hx hb hr hk dX2_daysOf_50 (ei (Eq.trans (if_neg c_1) (Eq.trans (if_neg c_2) (if_pos c_3))))
      · refine lv_iload_n hx hb dX2_daysOf_31 rfl (lv_at hl 1 rfl) ?_
        refine lv_bipush (v := (9 : Int32)) hx hb dX2_daysOf_32 qb_9 ?_
        refine lv_icmp_eq (tgt := 43) hx hb dX2_daysOf_34 (by decide) (fun c_4 => ?_) (fun c_4 => ?_)
        · refine lv_bipush (v := (30 : Int32)) hx hb dX2_daysOf_43 qb_30 ?_
          refine lv_goto (tgt := 50) hx hb dX2_daysOf_45 (by decide) ?_
          exact re_i hx hb hr hk dX2_daysOf_50 (ei (Eq.trans (if_neg c_1) (Eq.trans (if_neg c_2) (Eq.trans (if_neg c_3) (if_pos c_4)))))
        · refine lv_iload_n hx hb dX2_daysOf_37 rfl (lv_at hl 1 rfl) ?_
          refine lv_bipush (v := (11 : Int32)) hx hb dX2_daysOf_38 qb_11 ?_
          refine lv_icmp_ne (tgt := 48) hx hb dX2_daysOf_40 (by decide) (fun c_5 => ?_) (fun c_5 => ?_)
          · refine lv_bipush (v := (31 : Int32)) hx hb dX2_daysOf_48 qb_31 ?_
            exact re_i hx hb hr hk dX2_daysOf_50 (ei (Eq.trans (if_neg c_1) (Eq.trans (if_neg c_2) (Eq.trans (if_neg c_3) (Eq.trans (if_neg c_4) (if_neg c_5))))))
          · refine lv_bipush (v := (30 : Int32)) hx hb dX2_daysOf_43 qb_30 ?_
            refine lv_goto (tgt := 50) hx hb dX2_daysOf_45 (by decide) ?_
            exact re_i hx hb hr hk dX2_daysOf_50 (ei (Eq.trans (if_neg c_1) (Eq.trans (if_neg c_2) (Eq.trans (if_neg c_3) (Eq.trans (if_neg c_4) (if_pos c_5))))))
  · refine lv_iload_n hx hb dX2_daysOf_5 rfl (lv_at hl 0 rfl) ?_
    refine rcSi (as := [.int p0]) (rest := []) C (c_X2_isLeapYear l G p0) F_X2_isLeapYear rfl bw1226 bw1227 hE vpn hl.1 dX2_daysOf_6 ⟨Nat.le_of_ble_eq_true rfl, Nat.le_of_ble_eq_true rfl⟩ rfl (Nat.le_of_ble_eq_true rfl) ⟨Nat.zero_le _, Nat.zero_le _⟩ ?_
    refine lv_if_eq (tgt := 17) hx hb dX2_daysOf_9 (by decide) (fun c_6 => ?_) (fun c_6 => ?_)
    · refine lv_bipush (v := (28 : Int32)) hx hb dX2_daysOf_17 qb_28 ?_
      exact re_i hx hb hr hk dX2_daysOf_19 (ei (Eq.trans (if_pos c_1) (if_pos c_6)))
    · refine lv_bipush (v := (29 : Int32)) hx hb dX2_daysOf_12 qb_29 ?_
      refine lv_goto (tgt := 19) hx hb dX2_daysOf_14 (by decide) ?_
      exact re_i hx hb hr hk dX2_daysOf_19 (ei (Eq.trans (if_pos c_1) (if_neg c_6)))

set_option maxRecDepth 100000 in
set_option maxHeartbeats 4000000 in
theorem c_X2_daysOf_ (l : Launch) (G : GT) (p0 : Int32) : RO l G yX2_daysOf_ cX2_daysOf_ 1 (some .int) 2 [.int p0] [] (some (.int (fX2_daysOf_ p0))) := by
  refine RO.ofW (own := RX2) rfl (plainFor_of_name pnN_RX2) (Nat.le_of_ble_eq_true rfl) ?_
  intro p e s m below meth c C hr hk hE hP ls hl
  have hx := C.1
  have hb := C.2.1
  have hown := C.2.2.2.1
  have hw := C.2.2.2.2
  have hl : lv_has ls 1 [(0, .int p0)] := hl
  refine lv_iload_n hx hb dX2_daysOf__0 rfl (lv_at hl 0 rfl) ?_
  refine rcSi (as := [.int p0]) (rest := []) C (c_X2_isLeapYear l G p0) F_X2_isLeapYear rfl bw1226 bw1227 hE vpn hl.1 dX2_daysOf__1 ⟨Nat.le_of_ble_eq_true rfl, Nat.le_of_ble_eq_true rfl⟩ rfl (Nat.le_of_ble_eq_true rfl) ⟨Nat.zero_le _, Nat.zero_le _⟩ ?_
  refine lv_if_eq (tgt := 13) hx hb dX2_daysOf__4 (by decide) (fun c_1 => ?_) (fun c_1 => ?_)
  · refine lv_sipush (v := (365 : Int32)) hx hb dX2_daysOf__13 qs_365 ?_
    exact re_i hx hb hr hk dX2_daysOf__16 (ei (if_pos c_1))
  · refine lv_sipush (v := (366 : Int32)) hx hb dX2_daysOf__7 qs_366 ?_
    refine lv_goto (tgt := 16) hx hb dX2_daysOf__10 (by decide) ?_
    exact re_i hx hb hr hk dX2_daysOf__16 (ei (if_neg c_1))

set_option maxRecDepth 100000 in
set_option maxHeartbeats 4000000 in
theorem c_X2_floor (l : Launch) (G : GT) (p0 : Int64) (p1 : Int64) (h1 : ¬ p1 = 0) : RO l G yX2_floor cX2_floor 6 (some .long) 1 [.long p0, .long p1] [] (some (.long (fX2_floor p0 p1))) := by
  refine RO.ofW (own := RX2) rfl (plainFor_of_name pnN_RX2) (Nat.le_of_ble_eq_true rfl) ?_
  intro p e s m below meth c C hr hk hE hP ls hl
  have hx := C.1
  have hb := C.2.1
  have hown := C.2.2.2.1
  have hw := C.2.2.2.2
  have hl : lv_has ls 6 [(0, .long p0), (2, .long p1)] := hl
  refine lv_lload_n hx hb dX2_floor_0 rfl (lv_at hl 0 rfl) ?_
  refine lv_lload_n hx hb dX2_floor_1 rfl (lv_at hl 1 rfl) ?_
  refine lv_ldiv hx hb dX2_floor_2 h1 ?_
  refine lv_lstore (lv' := [(4, .long (p0 / p1)), (0, .long p0), (2, .long p1)]) hx hb dX2_floor_3 hl (Nat.le_of_ble_eq_true rfl) rfl (fun ls hl => ?_)
  refine lv_lload hx hb dX2_floor_5 (lv_at hl 0 rfl) ?_
  refine lv_lload_n hx hb dX2_floor_7 rfl (lv_at hl 2 rfl) ?_
  refine lv_lmul hx hb dX2_floor_8 ?_
  refine lv_lload_n hx hb dX2_floor_9 rfl (lv_at hl 1 rfl) ?_
  refine W.lcmp hx hb dX2_floor_10 ?_
  refine lv_if_le (tgt := 21) hx hb dX2_floor_11 (by decide) (fun c_1 => ?_) (fun c_1 => ?_)
  · refine lv_lload hx hb dX2_floor_21 (lv_at hl 0 rfl) ?_
    exact re_l hx hb hr hk dX2_floor_23 (el (if_pos c_1))
  · refine lv_lload hx hb dX2_floor_14 (lv_at hl 0 rfl) ?_
    refine lv_lconst (v := (1 : Int64)) hx hb dX2_floor_16 ql_1 ?_
    refine lv_lsub hx hb dX2_floor_17 ?_
    refine lv_goto (tgt := 23) hx hb dX2_floor_18 (by decide) ?_
    exact re_l hx hb hr hk dX2_floor_23 (el (if_neg c_1))

set_option maxRecDepth 100000 in
set_option maxHeartbeats 4000000 in
theorem c_X2_ahead (l : Launch) (G : GT) (p0 : Int64) : RO l G yX2_ahead cX2_ahead 2 (some .long) 2 [.long p0] [] (some (.long (fX2_ahead p0))) := by
  refine RO.ofW (own := RX2) rfl (plainFor_of_name pnN_RX2) (Nat.le_of_ble_eq_true rfl) ?_
  intro p e s m below meth c C hr hk hE hP ls hl
  have hx := C.1
  have hb := C.2.1
  have hown := C.2.2.2.1
  have hw := C.2.2.2.2
  have hl : lv_has ls 2 [(0, .long p0)] := hl
  refine lv_ldc2 (v := (365 : Int64)) hx hb hown (hw _ bw1257) dX2_ahead_0 ?_
  refine lv_lload_n hx hb dX2_ahead_3 rfl (lv_at hl 0 rfl) ?_
  refine lv_lmul hx hb dX2_ahead_4 ?_
  refine lv_lload_n hx hb dX2_ahead_5 rfl (lv_at hl 0 rfl) ?_
  refine lv_ldc2 (v := (3 : Int64)) hx hb hown (hw _ bw1258) dX2_ahead_6 ?_
  refine lv_ladd hx hb dX2_ahead_9 ?_
  refine lv_ldc2 (v := (4 : Int64)) hx hb hown (hw _ bw1259) dX2_ahead_10 ?_
  refine rcSl (as := [.long (p0 + (3 : Int64)), .long (4 : Int64)]) (rest := [.long ((365 : Int64) * p0)]) C (c_X2_floor l G (p0 + (3 : Int64)) (4 : Int64) (by decide)) F_X2_floor rfl bw1260 bw1261 hE vpn hl.1 dX2_ahead_13 ⟨Nat.le_of_ble_eq_true rfl, Nat.le_of_ble_eq_true rfl⟩ rfl (Nat.le_of_ble_eq_true rfl) ⟨Nat.zero_le _, Nat.zero_le _⟩ ?_
  refine lv_ladd hx hb dX2_ahead_16 ?_
  refine lv_lload_n hx hb dX2_ahead_17 rfl (lv_at hl 0 rfl) ?_
  refine lv_ldc2 (v := (99 : Int64)) hx hb hown (hw _ bw1263) dX2_ahead_18 ?_
  refine lv_ladd hx hb dX2_ahead_21 ?_
  refine lv_ldc2 (v := (100 : Int64)) hx hb hown (hw _ bw1264) dX2_ahead_22 ?_
  refine rcSl (as := [.long (p0 + (99 : Int64)), .long (100 : Int64)]) (rest := [.long (((365 : Int64) * p0) + (fX2_floor (p0 + (3 : Int64)) (4 : Int64)))]) C (c_X2_floor l G (p0 + (99 : Int64)) (100 : Int64) (by decide)) F_X2_floor rfl bw1260 bw1261 hE vpn hl.1 dX2_ahead_25 ⟨Nat.le_of_ble_eq_true rfl, Nat.le_of_ble_eq_true rfl⟩ rfl (Nat.le_of_ble_eq_true rfl) ⟨Nat.zero_le _, Nat.zero_le _⟩ ?_
  refine lv_lsub hx hb dX2_ahead_28 ?_
  refine lv_lload_n hx hb dX2_ahead_29 rfl (lv_at hl 0 rfl) ?_
  refine lv_ldc2 (v := (399 : Int64)) hx hb hown (hw _ bw1265) dX2_ahead_30 ?_
  refine lv_ladd hx hb dX2_ahead_33 ?_
  refine lv_ldc2 (v := (400 : Int64)) hx hb hown (hw _ bw1266) dX2_ahead_34 ?_
  refine rcSl (as := [.long (p0 + (399 : Int64)), .long (400 : Int64)]) (rest := [.long ((((365 : Int64) * p0) + (fX2_floor (p0 + (3 : Int64)) (4 : Int64))) - (fX2_floor (p0 + (99 : Int64)) (100 : Int64)))]) C (c_X2_floor l G (p0 + (399 : Int64)) (400 : Int64) (by decide)) F_X2_floor rfl bw1260 bw1261 hE vpn hl.1 dX2_ahead_37 ⟨Nat.le_of_ble_eq_true rfl, Nat.le_of_ble_eq_true rfl⟩ rfl (Nat.le_of_ble_eq_true rfl) ⟨Nat.zero_le _, Nat.zero_le _⟩ ?_
  refine lv_ladd hx hb dX2_ahead_40 ?_
  exact re_l hx hb hr hk dX2_ahead_41 (el rfl)

set_option maxRecDepth 100000 in
set_option maxHeartbeats 4000000 in
theorem c_X2_weekDay (l : Launch) (G : GT) (p0 : Int64) : RO l G yX2_weekDay cX2_weekDay 2 (some .int) 2 [.long p0] [] (some (.int (fX2_weekDay p0))) := by
  refine RO.ofW (own := RX2) rfl (plainFor_of_name pnN_RX2) (Nat.le_of_ble_eq_true rfl) ?_
  intro p e s m below meth c C hr hk hE hP ls hl
  have hx := C.1
  have hb := C.2.1
  have hown := C.2.2.2.1
  have hw := C.2.2.2.2
  have hl : lv_has ls 2 [(0, .long p0)] := hl
  refine lv_lload_n hx hb dX2_weekDay_0 rfl (lv_at hl 0 rfl) ?_
  refine lv_ldc2 (v := (3 : Int64)) hx hb hown (hw _ bw1258) dX2_weekDay_1 ?_
  refine lv_ladd hx hb dX2_weekDay_4 ?_
  refine lv_ldc2 (v := (7 : Int64)) hx hb hown (hw _ bw1274) dX2_weekDay_5 ?_
  refine lv_lload_n hx hb dX2_weekDay_8 rfl (lv_at hl 0 rfl) ?_
  refine lv_ldc2 (v := (3 : Int64)) hx hb hown (hw _ bw1258) dX2_weekDay_9 ?_
  refine lv_ladd hx hb dX2_weekDay_12 ?_
  refine lv_ldc2 (v := (7 : Int64)) hx hb hown (hw _ bw1274) dX2_weekDay_13 ?_
  refine rcSl (as := [.long (p0 + (3 : Int64)), .long (7 : Int64)]) (rest := [.long (7 : Int64), .long (p0 + (3 : Int64))]) C (c_X2_floor l G (p0 + (3 : Int64)) (7 : Int64) (by decide)) F_X2_floor rfl bw1260 bw1261 hE vpn hl.1 dX2_weekDay_16 ⟨Nat.le_of_ble_eq_true rfl, Nat.le_of_ble_eq_true rfl⟩ rfl (Nat.le_of_ble_eq_true rfl) ⟨Nat.zero_le _, Nat.zero_le _⟩ ?_
  refine lv_lmul hx hb dX2_weekDay_19 ?_
  refine lv_lsub hx hb dX2_weekDay_20 ?_
  refine lv_l2i (v := (((p0 + (3 : Int64)) - ((7 : Int64) * (fX2_floor (p0 + (3 : Int64)) (7 : Int64)))).toInt32)) hx hb dX2_weekDay_21 (by first | rfl | decide) ?_
  refine lv_iconst (v := (1 : Int32)) hx hb dX2_weekDay_22 qi_1 ?_
  refine lv_iadd hx hb dX2_weekDay_23 ?_
  exact re_i hx hb hr hk dX2_weekDay_24 (ei rfl)

set_option maxRecDepth 100000 in
set_option maxHeartbeats 4000000 in
theorem c_X2_nanosOf (l : Launch) (G : GT) (p0 : Int32) : RO l G yX2_nanosOf cX2_nanosOf 1 (some .long) 1 [.int p0] [] (some (.long (fX2_nanosOf p0))) := by
  refine RO.ofW (own := RX2) rfl (plainFor_of_name pnN_RX2) (Nat.le_of_ble_eq_true rfl) ?_
  intro p e s m below meth c C hr hk hE hP ls hl
  have hx := C.1
  have hb := C.2.1
  have hown := C.2.2.2.1
  have hw := C.2.2.2.2
  have hl : lv_has ls 1 [(0, .int p0)] := hl
  refine lv_iload_n hx hb dX2_nanosOf_0 rfl (lv_at hl 0 rfl) ?_
  by_cases c_1 : p0 = (0 : Int32)
  · refine lv_tableIn (tgt := 48) (off := 47) hx hb dX2_nanosOf_1 (by rw [c_1]; decide) (by rw [c_1]; decide) (by rw [c_1]; decide) (by decide) ?_
    refine lv_lconst (v := (1 : Int64)) hx hb dX2_nanosOf_48 ql_1 ?_
    exact re_l hx hb hr hk dX2_nanosOf_49 (el (if_pos c_1))
  by_cases c_2 : p0 = (1 : Int32)
  · refine lv_tableIn (tgt := 50) (off := 49) hx hb dX2_nanosOf_1 (by rw [c_2]; decide) (by rw [c_2]; decide) (by rw [c_2]; decide) (by decide) ?_
    refine lv_ldc2 (v := (1000 : Int64)) hx hb hown (hw _ bw1357) dX2_nanosOf_50 ?_
    exact re_l hx hb hr hk dX2_nanosOf_53 (el (Eq.trans (if_neg c_1) (if_pos c_2)))
  by_cases c_3 : p0 = (2 : Int32)
  · refine lv_tableIn (tgt := 54) (off := 53) hx hb dX2_nanosOf_1 (by rw [c_3]; decide) (by rw [c_3]; decide) (by rw [c_3]; decide) (by decide) ?_
    refine lv_ldc2 (v := (1000000 : Int64)) hx hb hown (hw _ bw1358) dX2_nanosOf_54 ?_
    exact re_l hx hb hr hk dX2_nanosOf_57 (el (Eq.trans (if_neg c_1) (Eq.trans (if_neg c_2) (if_pos c_3))))
  by_cases c_4 : p0 = (3 : Int32)
  · refine lv_tableIn (tgt := 58) (off := 57) hx hb dX2_nanosOf_1 (by rw [c_4]; decide) (by rw [c_4]; decide) (by rw [c_4]; decide) (by decide) ?_
    refine lv_ldc2 (v := (1000000000 : Int64)) hx hb hown (hw _ bw1238) dX2_nanosOf_58 ?_
    exact re_l hx hb hr hk dX2_nanosOf_61 (el (Eq.trans (if_neg c_1) (Eq.trans (if_neg c_2) (Eq.trans (if_neg c_3) (if_pos c_4)))))
  by_cases c_5 : p0 = (4 : Int32)
  · refine lv_tableIn (tgt := 62) (off := 61) hx hb dX2_nanosOf_1 (by rw [c_5]; decide) (by rw [c_5]; decide) (by rw [c_5]; decide) (by decide) ?_
    refine lv_ldc2 (v := (60000000000 : Int64)) hx hb hown (hw _ bw1341) dX2_nanosOf_62 ?_
    exact re_l hx hb hr hk dX2_nanosOf_65 (el (Eq.trans (if_neg c_1) (Eq.trans (if_neg c_2) (Eq.trans (if_neg c_3) (Eq.trans (if_neg c_4) (if_pos c_5))))))
  by_cases c_6 : p0 = (5 : Int32)
  · refine lv_tableIn (tgt := 66) (off := 65) hx hb dX2_nanosOf_1 (by rw [c_6]; decide) (by rw [c_6]; decide) (by rw [c_6]; decide) (by decide) ?_
    refine lv_ldc2 (v := (3600000000000 : Int64)) hx hb hown (hw _ bw1331) dX2_nanosOf_66 ?_
    exact re_l hx hb hr hk dX2_nanosOf_69 (el (Eq.trans (if_neg c_1) (Eq.trans (if_neg c_2) (Eq.trans (if_neg c_3) (Eq.trans (if_neg c_4) (Eq.trans (if_neg c_5) (if_pos c_6)))))))
  by_cases c_7 : p0 = (6 : Int32)
  · refine lv_tableIn (tgt := 70) (off := 69) hx hb dX2_nanosOf_1 (by rw [c_7]; decide) (by rw [c_7]; decide) (by rw [c_7]; decide) (by decide) ?_
    refine lv_ldc2 (v := (43200000000000 : Int64)) hx hb hown (hw _ bw1359) dX2_nanosOf_70 ?_
    exact re_l hx hb hr hk dX2_nanosOf_73 (el (Eq.trans (if_neg c_1) (Eq.trans (if_neg c_2) (Eq.trans (if_neg c_3) (Eq.trans (if_neg c_4) (Eq.trans (if_neg c_5) (Eq.trans (if_neg c_6) (if_pos c_7))))))))
  by_cases c_8 : p0 = (7 : Int32)
  · refine lv_tableIn (tgt := 74) (off := 73) hx hb dX2_nanosOf_1 (by rw [c_8]; decide) (by rw [c_8]; decide) (by rw [c_8]; decide) (by decide) ?_
    refine lv_ldc2 (v := (86400000000000 : Int64)) hx hb hown (hw _ bw1360) dX2_nanosOf_74 ?_
    exact re_l hx hb hr hk dX2_nanosOf_77 (el (Eq.trans (if_neg c_1) (Eq.trans (if_neg c_2) (Eq.trans (if_neg c_3) (Eq.trans (if_neg c_4) (Eq.trans (if_neg c_5) (Eq.trans (if_neg c_6) (Eq.trans (if_neg c_7) (if_pos c_8)))))))))
  have nc_1 := lv_neT c_1 (a := 0) (by decide)
  have nc_2 := lv_neT c_2 (a := 1) (by decide)
  have nc_3 := lv_neT c_3 (a := 2) (by decide)
  have nc_4 := lv_neT c_4 (a := 3) (by decide)
  have nc_5 := lv_neT c_5 (a := 4) (by decide)
  have nc_6 := lv_neT c_6 (a := 5) (by decide)
  have nc_7 := lv_neT c_7 (a := 6) (by decide)
  have nc_8 := lv_neT c_8 (a := 7) (by decide)
  refine lv_tableOut (tgt := 78) hx hb dX2_nanosOf_1 (by omega) (by decide) ?_
  refine lv_ldc2 (v := (604800000000000 : Int64)) hx hb hown (hw _ bw1361) dX2_nanosOf_78 ?_
  exact re_l hx hb hr hk dX2_nanosOf_81 (el (Eq.trans (if_neg c_1) (Eq.trans (if_neg c_2) (Eq.trans (if_neg c_3) (Eq.trans (if_neg c_4) (Eq.trans (if_neg c_5) (Eq.trans (if_neg c_6) (Eq.trans (if_neg c_7) (if_neg c_8)))))))))

set_option maxRecDepth 100000 in
set_option maxHeartbeats 4000000 in
theorem c_X2_monthsOf (l : Launch) (G : GT) (p0 : Int32) : RO l G yX2_monthsOf cX2_monthsOf 1 (some .int) 1 [.int p0] [] (some (.int (fX2_monthsOf p0))) := by
  refine RO.ofW (own := RX2) rfl (plainFor_of_name pnN_RX2) (Nat.le_of_ble_eq_true rfl) ?_
  intro p e s m below meth c C hr hk hE hP ls hl
  have hx := C.1
  have hb := C.2.1
  have hown := C.2.2.2.1
  have hw := C.2.2.2.2
  have hl : lv_has ls 1 [(0, .int p0)] := hl
  refine lv_iload_n hx hb dX2_monthsOf_0 rfl (lv_at hl 0 rfl) ?_
  refine lv_bipush (v := (9 : Int32)) hx hb dX2_monthsOf_1 qb_9 ?_
  refine lv_icmp_ne (tgt := 10) hx hb dX2_monthsOf_3 (by decide) (fun c_1 => ?_) (fun c_1 => ?_)
  · refine lv_iload_n hx hb dX2_monthsOf_10 rfl (lv_at hl 0 rfl) ?_
    refine lv_bipush (v := (10 : Int32)) hx hb dX2_monthsOf_11 qb_10 ?_
    refine lv_icmp_ne (tgt := 21) hx hb dX2_monthsOf_13 (by decide) (fun c_2 => ?_) (fun c_2 => ?_)
    · refine lv_iload_n hx hb dX2_monthsOf_21 rfl (lv_at hl 0 rfl) ?_
      refine lv_bipush (v := (11 : Int32)) hx hb dX2_monthsOf_22 qb_11 ?_
      refine lv_icmp_ne (tgt := 32) hx hb dX2_monthsOf_24 (by decide) (fun c_3 => ?_) (fun c_3 => ?_)
      · refine lv_iload_n hx hb dX2_monthsOf_32 rfl (lv_at hl 0 rfl) ?_
        refine lv_bipush (v := (12 : Int32)) hx hb dX2_monthsOf_33 qb_12 ?_
        refine lv_icmp_ne (tgt := 44) hx hb dX2_monthsOf_35 (by decide) (fun c_4 => ?_) (fun c_4 => ?_)
        · refine lv_sipush (v := (12000 : Int32)) hx hb dX2_monthsOf_44 qs_12000 ?_
          exact re_i hx hb hr hk dX2_monthsOf_47 (ei (Eq.trans (if_neg c_1) (Eq.trans (if_neg c_2) (Eq.trans (if_neg c_3) (if_neg c_4)))))
        · refine lv_sipush (v := (1200 : Int32)) hx hb dX2_monthsOf_38 qs_1200 ?_
          refine lv_goto (tgt := 47) hx hb dX2_monthsOf_41 (by decide) ?_
          exact re_i hx hb hr hk dX2_monthsOf_47 (ei (Eq.trans (if_neg c_1) (Eq.trans (if_neg c_2) (Eq.trans (if_neg c_3) (if_pos c_4)))))
      · refine lv_bipush (v := (120 : Int32)) hx hb dX2_monthsOf_27 qb_120 ?_
        refine lv_goto (tgt := 47) hx hb dX2_monthsOf_29 (by decide) ?_
        exact re_i hx hb hr hk dX2_monthsOf_47 (ei (Eq.trans (if_neg c_1) (Eq.trans (if_neg c_2) (if_pos c_3))))
    · refine lv_bipush (v := (12 : Int32)) hx hb dX2_monthsOf_16 qb_12 ?_
      refine lv_goto (tgt := 47) hx hb dX2_monthsOf_18 (by decide) ?_
      exact re_i hx hb hr hk dX2_monthsOf_47 (ei (Eq.trans (if_neg c_1) (if_pos c_2)))
  · refine lv_iconst (v := (1 : Int32)) hx hb dX2_monthsOf_6 qi_1 ?_
    refine lv_goto (tgt := 47) hx hb dX2_monthsOf_7 (by decide) ?_
    exact re_i hx hb hr hk dX2_monthsOf_47 (ei (if_pos c_1))

set_option maxRecDepth 100000 in
set_option maxHeartbeats 4000000 in
theorem c_X2_isFrom (l : Launch) (G : GT) (p0 : Int32) (p1 : Int32) (p2 : Int32) : RO l G yX2_isFrom cX2_isFrom 3 (some .boolean) 1 [.int p0, .int p1, .int p2] [] (some (.int (fX2_isFrom p0 p1 p2))) := by
  refine RO.ofW (own := RX2) rfl (plainFor_of_name pnN_RX2) (Nat.le_of_ble_eq_true rfl) ?_
  intro p e s m below meth c C hr hk hE hP ls hl
  have hx := C.1
  have hb := C.2.1
  have hown := C.2.2.2.1
  have hw := C.2.2.2.2
  have hl : lv_has ls 3 [(0, .int p0), (1, .int p1), (2, .int p2)] := hl
  refine lv_iload_n hx hb dX2_isFrom_0 rfl (lv_at hl 2 rfl) ?_
  refine lv_iload_n hx hb dX2_isFrom_1 rfl (lv_at hl 0 rfl) ?_
  refine lv_icmp_lt (tgt := 14) hx hb dX2_isFrom_2 (by decide) (fun c_1 => ?_) (fun c_1 => ?_)
  · refine lv_iconst (v := (0 : Int32)) hx hb dX2_isFrom_14 qi_0 ?_
    exact re_z (ty := .boolean) hx hb hr hk (by decide) dX2_isFrom_15 (ei (if_pos c_1))
  · refine lv_iload_n hx hb dX2_isFrom_5 rfl (lv_at hl 2 rfl) ?_
    refine lv_iload_n hx hb dX2_isFrom_6 rfl (lv_at hl 1 rfl) ?_
    refine lv_icmp_gt (tgt := 14) hx hb dX2_isFrom_7 (by decide) (fun c_2 => ?_) (fun c_2 => ?_)
    · refine lv_iconst (v := (0 : Int32)) hx hb dX2_isFrom_14 qi_0 ?_
      exact re_z (ty := .boolean) hx hb hr hk (by decide) dX2_isFrom_15 (ei (Eq.trans (if_neg c_1) (if_pos c_2)))
    · refine lv_iconst (v := (1 : Int32)) hx hb dX2_isFrom_10 qi_1 ?_
      refine lv_goto (tgt := 15) hx hb dX2_isFrom_11 (by decide) ?_
      exact re_z (ty := .boolean) hx hb hr hk (by decide) dX2_isFrom_15 (ei (Eq.trans (if_neg c_1) (if_neg c_2)))

set_option maxRecDepth 100000 in
set_option maxHeartbeats 4000000 in
theorem c_X2_isNone (l : Launch) (G : GT) (p0 : Int32) : RO l G yX2_isNone cX2_isNone 1 (some .boolean) 2 [.int p0] [] (some (.int (fX2_isNone p0))) := by
  refine RO.ofW (own := RX2) rfl (plainFor_of_name pnN_RX2) (Nat.le_of_ble_eq_true rfl) ?_
  intro p e s m below meth c C hr hk hE hP ls hl
  have hx := C.1
  have hb := C.2.1
  have hown := C.2.2.2.1
  have hw := C.2.2.2.2
  have hl : lv_has ls 1 [(0, .int p0)] := hl
  refine lv_iconst (v := (0 : Int32)) hx hb dX2_isNone_0 qi_0 ?_
  refine lv_iconst (v := (5 : Int32)) hx hb dX2_isNone_1 qi_5 ?_
  refine lv_iload_n hx hb dX2_isNone_2 rfl (lv_at hl 0 rfl) ?_
  refine rcSi (as := [.int (0 : Int32), .int (5 : Int32), .int p0]) (rest := []) C (c_X2_isFrom l G (0 : Int32) (5 : Int32) p0) F_X2_isFrom rfl bw1208 bw1209 hE vpn hl.1 dX2_isNone_3 ⟨Nat.le_of_ble_eq_true rfl, Nat.le_of_ble_eq_true rfl⟩ rfl (Nat.le_of_ble_eq_true rfl) ⟨Nat.zero_le _, Nat.zero_le _⟩ ?_
  refine lv_if_ne (tgt := 13) hx hb dX2_isNone_6 (by decide) (fun c_1 => ?_) (fun c_1 => ?_)
  · refine lv_iconst (v := (0 : Int32)) hx hb dX2_isNone_13 qi_0 ?_
    exact re_z (ty := .boolean) hx hb hr hk (by decide) dX2_isNone_14 (ei (if_neg c_1))
  · refine lv_iconst (v := (1 : Int32)) hx hb dX2_isNone_9 qi_1 ?_
    refine lv_goto (tgt := 14) hx hb dX2_isNone_10 (by decide) ?_
    exact re_z (ty := .boolean) hx hb hr hk (by decide) dX2_isNone_14 (ei (if_pos c_1))

set_option maxRecDepth 100000 in
set_option maxHeartbeats 4000000 in
theorem c_X2_inYear (l : Launch) (G : GT) (p0 : Int32) (p1 : Int32) (p2 : Int32) (h1 : p1 ≤ (12 : Int32)) : RO l G yX2_inYear cX2_inYear 5 (some .int) 3 [.int p0, .int p1, .int p2] [] (some (.int (fX2_inYear p0 p1 p2))) := by
  refine RO.ofW (own := RX2) rfl (plainFor_of_name pnN_RX2) (Nat.le_of_ble_eq_true rfl) ?_
  intro p e s m below meth c C hr hk hE hP ls hl
  have hx := C.1
  have hb := C.2.1
  have hown := C.2.2.2.1
  have hw := C.2.2.2.2
  have hl : lv_has ls 5 [(0, .int p0), (1, .int p1), (2, .int p2)] := hl
  refine lv_iload_n hx hb dX2_inYear_0 rfl (lv_at hl 2 rfl) ?_
  refine lv_istore_n (lv' := [(3, .int p2), (0, .int p0), (1, .int p1), (2, .int p2)]) hx hb dX2_inYear_1 rfl hl (Nat.le_of_ble_eq_true rfl) rfl (fun ls hl => ?_)
  refine lv_iconst (v := (1 : Int32)) hx hb dX2_inYear_2 qi_1 ?_
  refine lv_istore (lv' := [(4, .int (1 : Int32)), (3, .int p2), (0, .int p0), (1, .int p1), (2, .int p2)]) hx hb dX2_inYear_3 hl (Nat.le_of_ble_eq_true rfl) rfl (fun ls hl => ?_)
  refine lv_iload hx hb dX2_inYear_5 (lv_at hl 0 rfl) ?_
  refine lv_iload_n hx hb dX2_inYear_7 rfl (lv_at hl 3 rfl) ?_
  refine lv_icmp_ge (tgt := 26) hx hb dX2_inYear_8 (by decide) (fun c_1 => ?_) (fun c_1 => ?_)
  · refine lv_iload_n hx hb dX2_inYear_26 rfl (lv_at hl 1 rfl) ?_
    exact re_i hx hb hr hk dX2_inYear_27 (ei (if_pos c_1))
  · refine lv_iload_n hx hb dX2_inYear_11 rfl (lv_at hl 1 rfl) ?_
    refine lv_iload_n hx hb dX2_inYear_12 rfl (lv_at hl 2 rfl) ?_
    refine lv_iload hx hb dX2_inYear_13 (lv_at hl 0 rfl) ?_
    refine rcSi (as := [.int p0, .int (1 : Int32)]) (rest := [.int p2]) C (c_X2_daysOf l G p0 (1 : Int32)) F_X2_daysOf rfl bw1223 bw1224 hE vpn hl.1 dX2_inYear_15 ⟨Nat.le_of_ble_eq_true rfl, Nat.le_of_ble_eq_true rfl⟩ rfl (Nat.le_of_ble_eq_true rfl) ⟨Nat.zero_le _, Nat.zero_le _⟩ ?_
    refine lv_iadd hx hb dX2_inYear_18 ?_
    refine lv_istore_n (lv' := [(3, .int (p2 + (fX2_daysOf p0 (1 : Int32)))), (4, .int (1 : Int32)), (0, .int p0), (1, .int p1), (2, .int p2)]) hx hb dX2_inYear_19 rfl hl (Nat.le_of_ble_eq_true rfl) rfl (fun ls hl => ?_)
    refine lv_iinc (v := (2 : Int32)) (lv' := [(4, .int (2 : Int32)), (3, .int (p2 + (fX2_daysOf p0 (1 : Int32)))), (0, .int p0), (1, .int p1), (2, .int p2)]) hx hb dX2_inYear_20 hl (k := 1) rfl (by first | rfl | decide) (Nat.le_of_ble_eq_true rfl) rfl (fun ls hl => ?_)
    refine lv_goto (tgt := 5) hx hb dX2_inYear_23 (by decide) ?_
    refine lv_iload hx hb dX2_inYear_5 (lv_at hl 0 rfl) ?_
    refine lv_iload_n hx hb dX2_inYear_7 rfl (lv_at hl 3 rfl) ?_
    refine lv_icmp_ge (tgt := 26) hx hb dX2_inYear_8 (by decide) (fun c_2 => ?_) (fun c_2 => ?_)
    · refine lv_iload_n hx hb dX2_inYear_26 rfl (lv_at hl 1 rfl) ?_
      exact re_i hx hb hr hk dX2_inYear_27 (ei (Eq.trans (if_neg c_1) (if_pos c_2)))
    · refine lv_iload_n hx hb dX2_inYear_11 rfl (lv_at hl 1 rfl) ?_
      refine lv_iload_n hx hb dX2_inYear_12 rfl (lv_at hl 2 rfl) ?_
      refine lv_iload hx hb dX2_inYear_13 (lv_at hl 0 rfl) ?_
      refine rcSi (as := [.int p0, .int (2 : Int32)]) (rest := [.int (p2 + (fX2_daysOf p0 (1 : Int32)))]) C (c_X2_daysOf l G p0 (2 : Int32)) F_X2_daysOf rfl bw1223 bw1224 hE vpn hl.1 dX2_inYear_15 ⟨Nat.le_of_ble_eq_true rfl, Nat.le_of_ble_eq_true rfl⟩ rfl (Nat.le_of_ble_eq_true rfl) ⟨Nat.zero_le _, Nat.zero_le _⟩ ?_
      refine lv_iadd hx hb dX2_inYear_18 ?_
      refine lv_istore_n (lv' := [(3, .int ((p2 + (fX2_daysOf p0 (1 : Int32))) + (fX2_daysOf p0 (2 : Int32)))), (4, .int (2 : Int32)), (0, .int p0), (1, .int p1), (2, .int p2)]) hx hb dX2_inYear_19 rfl hl (Nat.le_of_ble_eq_true rfl) rfl (fun ls hl => ?_)
      refine lv_iinc (v := (3 : Int32)) (lv' := [(4, .int (3 : Int32)), (3, .int ((p2 + (fX2_daysOf p0 (1 : Int32))) + (fX2_daysOf p0 (2 : Int32)))), (0, .int p0), (1, .int p1), (2, .int p2)]) hx hb dX2_inYear_20 hl (k := 1) rfl (by first | rfl | decide) (Nat.le_of_ble_eq_true rfl) rfl (fun ls hl => ?_)
      refine lv_goto (tgt := 5) hx hb dX2_inYear_23 (by decide) ?_
      refine lv_iload hx hb dX2_inYear_5 (lv_at hl 0 rfl) ?_
      refine lv_iload_n hx hb dX2_inYear_7 rfl (lv_at hl 3 rfl) ?_
      refine lv_icmp_ge (tgt := 26) hx hb dX2_inYear_8 (by decide) (fun c_3 => ?_) (fun c_3 => ?_)
      · refine lv_iload_n hx hb dX2_inYear_26 rfl (lv_at hl 1 rfl) ?_
        exact re_i hx hb hr hk dX2_inYear_27 (ei (Eq.trans (if_neg c_1) (Eq.trans (if_neg c_2) (if_pos c_3))))
      · refine lv_iload_n hx hb dX2_inYear_11 rfl (lv_at hl 1 rfl) ?_
        refine lv_iload_n hx hb dX2_inYear_12 rfl (lv_at hl 2 rfl) ?_
        refine lv_iload hx hb dX2_inYear_13 (lv_at hl 0 rfl) ?_
        refine rcSi (as := [.int p0, .int (3 : Int32)]) (rest := [.int ((p2 + (fX2_daysOf p0 (1 : Int32))) + (fX2_daysOf p0 (2 : Int32)))]) C (c_X2_daysOf l G p0 (3 : Int32)) F_X2_daysOf rfl bw1223 bw1224 hE vpn hl.1 dX2_inYear_15 ⟨Nat.le_of_ble_eq_true rfl, Nat.le_of_ble_eq_true rfl⟩ rfl (Nat.le_of_ble_eq_true rfl) ⟨Nat.zero_le _, Nat.zero_le _⟩ ?_
        refine lv_iadd hx hb dX2_inYear_18 ?_
        refine lv_istore_n (lv' := [(3, .int (((p2 + (fX2_daysOf p0 (1 : Int32))) + (fX2_daysOf p0 (2 : Int32))) + (fX2_daysOf p0 (3 : Int32)))), (4, .int (3 : Int32)), (0, .int p0), (1, .int p1), (2, .int p2)]) hx hb dX2_inYear_19 rfl hl (Nat.le_of_ble_eq_true rfl) rfl (fun ls hl => ?_)
        refine lv_iinc (v := (4 : Int32)) (lv' := [(4, .int (4 : Int32)), (3, .int (((p2 + (fX2_daysOf p0 (1 : Int32))) + (fX2_daysOf p0 (2 : Int32))) + (fX2_daysOf p0 (3 : Int32)))), (0, .int p0), (1, .int p1), (2, .int p2)]) hx hb dX2_inYear_20 hl (k := 1) rfl (by first | rfl | decide) (Nat.le_of_ble_eq_true rfl) rfl (fun ls hl => ?_)
        refine lv_goto (tgt := 5) hx hb dX2_inYear_23 (by decide) ?_
        refine lv_iload hx hb dX2_inYear_5 (lv_at hl 0 rfl) ?_
        refine lv_iload_n hx hb dX2_inYear_7 rfl (lv_at hl 3 rfl) ?_
        refine lv_icmp_ge (tgt := 26) hx hb dX2_inYear_8 (by decide) (fun c_4 => ?_) (fun c_4 => ?_)
        · refine lv_iload_n hx hb dX2_inYear_26 rfl (lv_at hl 1 rfl) ?_
          exact re_i hx hb hr hk dX2_inYear_27 (ei (Eq.trans (if_neg c_1) (Eq.trans (if_neg c_2) (Eq.trans (if_neg c_3) (if_pos c_4)))))
        · refine lv_iload_n hx hb dX2_inYear_11 rfl (lv_at hl 1 rfl) ?_
          refine lv_iload_n hx hb dX2_inYear_12 rfl (lv_at hl 2 rfl) ?_
          refine lv_iload hx hb dX2_inYear_13 (lv_at hl 0 rfl) ?_
          refine rcSi (as := [.int p0, .int (4 : Int32)]) (rest := [.int (((p2 + (fX2_daysOf p0 (1 : Int32))) + (fX2_daysOf p0 (2 : Int32))) + (fX2_daysOf p0 (3 : Int32)))]) C (c_X2_daysOf l G p0 (4 : Int32)) F_X2_daysOf rfl bw1223 bw1224 hE vpn hl.1 dX2_inYear_15 ⟨Nat.le_of_ble_eq_true rfl, Nat.le_of_ble_eq_true rfl⟩ rfl (Nat.le_of_ble_eq_true rfl) ⟨Nat.zero_le _, Nat.zero_le _⟩ ?_
          refine lv_iadd hx hb dX2_inYear_18 ?_
          refine lv_istore_n (lv' := [(3, .int ((((p2 + (fX2_daysOf p0 (1 : Int32))) + (fX2_daysOf p0 (2 : Int32))) + (fX2_daysOf p0 (3 : Int32))) + (fX2_daysOf p0 (4 : Int32)))), (4, .int (4 : Int32)), (0, .int p0), (1, .int p1), (2, .int p2)]) hx hb dX2_inYear_19 rfl hl (Nat.le_of_ble_eq_true rfl) rfl (fun ls hl => ?_)
          refine lv_iinc (v := (5 : Int32)) (lv' := [(4, .int (5 : Int32)), (3, .int ((((p2 + (fX2_daysOf p0 (1 : Int32))) + (fX2_daysOf p0 (2 : Int32))) + (fX2_daysOf p0 (3 : Int32))) + (fX2_daysOf p0 (4 : Int32)))), (0, .int p0), (1, .int p1), (2, .int p2)]) hx hb dX2_inYear_20 hl (k := 1) rfl (by first | rfl | decide) (Nat.le_of_ble_eq_true rfl) rfl (fun ls hl => ?_)
          refine lv_goto (tgt := 5) hx hb dX2_inYear_23 (by decide) ?_
          refine lv_iload hx hb dX2_inYear_5 (lv_at hl 0 rfl) ?_
          refine lv_iload_n hx hb dX2_inYear_7 rfl (lv_at hl 3 rfl) ?_
          refine lv_icmp_ge (tgt := 26) hx hb dX2_inYear_8 (by decide) (fun c_5 => ?_) (fun c_5 => ?_)
          · refine lv_iload_n hx hb dX2_inYear_26 rfl (lv_at hl 1 rfl) ?_
            exact re_i hx hb hr hk dX2_inYear_27 (ei (Eq.trans (if_neg c_1) (Eq.trans (if_neg c_2) (Eq.trans (if_neg c_3) (Eq.trans (if_neg c_4) (if_pos c_5))))))
          · refine lv_iload_n hx hb dX2_inYear_11 rfl (lv_at hl 1 rfl) ?_
            refine lv_iload_n hx hb dX2_inYear_12 rfl (lv_at hl 2 rfl) ?_
            refine lv_iload hx hb dX2_inYear_13 (lv_at hl 0 rfl) ?_
            refine rcSi (as := [.int p0, .int (5 : Int32)]) (rest := [.int ((((p2 + (fX2_daysOf p0 (1 : Int32))) + (fX2_daysOf p0 (2 : Int32))) + (fX2_daysOf p0 (3 : Int32))) + (fX2_daysOf p0 (4 : Int32)))]) C (c_X2_daysOf l G p0 (5 : Int32)) F_X2_daysOf rfl bw1223 bw1224 hE vpn hl.1 dX2_inYear_15 ⟨Nat.le_of_ble_eq_true rfl, Nat.le_of_ble_eq_true rfl⟩ rfl (Nat.le_of_ble_eq_true rfl) ⟨Nat.zero_le _, Nat.zero_le _⟩ ?_
            refine lv_iadd hx hb dX2_inYear_18 ?_
            refine lv_istore_n (lv' := [(3, .int (((((p2 + (fX2_daysOf p0 (1 : Int32))) + (fX2_daysOf p0 (2 : Int32))) + (fX2_daysOf p0 (3 : Int32))) + (fX2_daysOf p0 (4 : Int32))) + (fX2_daysOf p0 (5 : Int32)))), (4, .int (5 : Int32)), (0, .int p0), (1, .int p1), (2, .int p2)]) hx hb dX2_inYear_19 rfl hl (Nat.le_of_ble_eq_true rfl) rfl (fun ls hl => ?_)
            refine lv_iinc (v := (6 : Int32)) (lv' := [(4, .int (6 : Int32)), (3, .int (((((p2 + (fX2_daysOf p0 (1 : Int32))) + (fX2_daysOf p0 (2 : Int32))) + (fX2_daysOf p0 (3 : Int32))) + (fX2_daysOf p0 (4 : Int32))) + (fX2_daysOf p0 (5 : Int32)))), (0, .int p0), (1, .int p1), (2, .int p2)]) hx hb dX2_inYear_20 hl (k := 1) rfl (by first | rfl | decide) (Nat.le_of_ble_eq_true rfl) rfl (fun ls hl => ?_)
            refine lv_goto (tgt := 5) hx hb dX2_inYear_23 (by decide) ?_
            refine lv_iload hx hb dX2_inYear_5 (lv_at hl 0 rfl) ?_
            refine lv_iload_n hx hb dX2_inYear_7 rfl (lv_at hl 3 rfl) ?_
            refine lv_icmp_ge (tgt := 26) hx hb dX2_inYear_8 (by decide) (fun c_6 => ?_) (fun c_6 => ?_)
            · refine lv_iload_n hx hb dX2_inYear_26 rfl (lv_at hl 1 rfl) ?_
              exact re_i hx hb hr hk dX2_inYear_27 (ei (Eq.trans (if_neg c_1) (Eq.trans (if_neg c_2) (Eq.trans (if_neg c_3) (Eq.trans (if_neg c_4) (Eq.trans (if_neg c_5) (if_pos c_6)))))))
            · refine lv_iload_n hx hb dX2_inYear_11 rfl (lv_at hl 1 rfl) ?_
              refine lv_iload_n hx hb dX2_inYear_12 rfl (lv_at hl 2 rfl) ?_
              refine lv_iload hx hb dX2_inYear_13 (lv_at hl 0 rfl) ?_
              refine rcSi (as := [.int p0, .int (6 : Int32)]) (rest := [.int (((((p2 + (fX2_daysOf p0 (1 : Int32))) + (fX2_daysOf p0 (2 : Int32))) + (fX2_daysOf p0 (3 : Int32))) + (fX2_daysOf p0 (4 : Int32))) + (fX2_daysOf p0 (5 : Int32)))]) C (c_X2_daysOf l G p0 (6 : Int32)) F_X2_daysOf rfl bw1223 bw1224 hE vpn hl.1 dX2_inYear_15 ⟨Nat.le_of_ble_eq_true rfl, Nat.le_of_ble_eq_true rfl⟩ rfl (Nat.le_of_ble_eq_true rfl) ⟨Nat.zero_le _, Nat.zero_le _⟩ ?_
              refine lv_iadd hx hb dX2_inYear_18 ?_
              refine lv_istore_n (lv' := [(3, .int ((((((p2 + (fX2_daysOf p0 (1 : Int32))) + (fX2_daysOf p0 (2 : Int32))) + (fX2_daysOf p0 (3 : Int32))) + (fX2_daysOf p0 (4 : Int32))) + (fX2_daysOf p0 (5 : Int32))) + (fX2_daysOf p0 (6 : Int32)))), (4, .int (6 : Int32)), (0, .int p0), (1, .int p1), (2, .int p2)]) hx hb dX2_inYear_19 rfl hl (Nat.le_of_ble_eq_true rfl) rfl (fun ls hl => ?_)
              refine lv_iinc (v := (7 : Int32)) (lv' := [(4, .int (7 : Int32)), (3, .int ((((((p2 + (fX2_daysOf p0 (1 : Int32))) + (fX2_daysOf p0 (2 : Int32))) + (fX2_daysOf p0 (3 : Int32))) + (fX2_daysOf p0 (4 : Int32))) + (fX2_daysOf p0 (5 : Int32))) + (fX2_daysOf p0 (6 : Int32)))), (0, .int p0), (1, .int p1), (2, .int p2)]) hx hb dX2_inYear_20 hl (k := 1) rfl (by first | rfl | decide) (Nat.le_of_ble_eq_true rfl) rfl (fun ls hl => ?_)
              refine lv_goto (tgt := 5) hx hb dX2_inYear_23 (by decide) ?_
              refine lv_iload hx hb dX2_inYear_5 (lv_at hl 0 rfl) ?_
              refine lv_iload_n hx hb dX2_inYear_7 rfl (lv_at hl 3 rfl) ?_
              refine lv_icmp_ge (tgt := 26) hx hb dX2_inYear_8 (by decide) (fun c_7 => ?_) (fun c_7 => ?_)
              · refine lv_iload_n hx hb dX2_inYear_26 rfl (lv_at hl 1 rfl) ?_
                exact re_i hx hb hr hk dX2_inYear_27 (ei (Eq.trans (if_neg c_1) (Eq.trans (if_neg c_2) (Eq.trans (if_neg c_3) (Eq.trans (if_neg c_4) (Eq.trans (if_neg c_5) (Eq.trans (if_neg c_6) (if_pos c_7))))))))
              · refine lv_iload_n hx hb dX2_inYear_11 rfl (lv_at hl 1 rfl) ?_
                refine lv_iload_n hx hb dX2_inYear_12 rfl (lv_at hl 2 rfl) ?_
                refine lv_iload hx hb dX2_inYear_13 (lv_at hl 0 rfl) ?_
                refine rcSi (as := [.int p0, .int (7 : Int32)]) (rest := [.int ((((((p2 + (fX2_daysOf p0 (1 : Int32))) + (fX2_daysOf p0 (2 : Int32))) + (fX2_daysOf p0 (3 : Int32))) + (fX2_daysOf p0 (4 : Int32))) + (fX2_daysOf p0 (5 : Int32))) + (fX2_daysOf p0 (6 : Int32)))]) C (c_X2_daysOf l G p0 (7 : Int32)) F_X2_daysOf rfl bw1223 bw1224 hE vpn hl.1 dX2_inYear_15 ⟨Nat.le_of_ble_eq_true rfl, Nat.le_of_ble_eq_true rfl⟩ rfl (Nat.le_of_ble_eq_true rfl) ⟨Nat.zero_le _, Nat.zero_le _⟩ ?_
                refine lv_iadd hx hb dX2_inYear_18 ?_
                refine lv_istore_n (lv' := [(3, .int (((((((p2 + (fX2_daysOf p0 (1 : Int32))) + (fX2_daysOf p0 (2 : Int32))) + (fX2_daysOf p0 (3 : Int32))) + (fX2_daysOf p0 (4 : Int32))) + (fX2_daysOf p0 (5 : Int32))) + (fX2_daysOf p0 (6 : Int32))) + (fX2_daysOf p0 (7 : Int32)))), (4, .int (7 : Int32)), (0, .int p0), (1, .int p1), (2, .int p2)]) hx hb dX2_inYear_19 rfl hl (Nat.le_of_ble_eq_true rfl) rfl (fun ls hl => ?_)
                refine lv_iinc (v := (8 : Int32)) (lv' := [(4, .int (8 : Int32)), (3, .int (((((((p2 + (fX2_daysOf p0 (1 : Int32))) + (fX2_daysOf p0 (2 : Int32))) + (fX2_daysOf p0 (3 : Int32))) + (fX2_daysOf p0 (4 : Int32))) + (fX2_daysOf p0 (5 : Int32))) + (fX2_daysOf p0 (6 : Int32))) + (fX2_daysOf p0 (7 : Int32)))), (0, .int p0), (1, .int p1), (2, .int p2)]) hx hb dX2_inYear_20 hl (k := 1) rfl (by first | rfl | decide) (Nat.le_of_ble_eq_true rfl) rfl (fun ls hl => ?_)
                refine lv_goto (tgt := 5) hx hb dX2_inYear_23 (by decide) ?_
                refine lv_iload hx hb dX2_inYear_5 (lv_at hl 0 rfl) ?_
                refine lv_iload_n hx hb dX2_inYear_7 rfl (lv_at hl 3 rfl) ?_
                refine lv_icmp_ge (tgt := 26) hx hb dX2_inYear_8 (by decide) (fun c_8 => ?_) (fun c_8 => ?_)
                · refine lv_iload_n hx hb dX2_inYear_26 rfl (lv_at hl 1 rfl) ?_
                  exact re_i hx hb hr hk dX2_inYear_27 (ei (Eq.trans (if_neg c_1) (Eq.trans (if_neg c_2) (Eq.trans (if_neg c_3) (Eq.trans (if_neg c_4) (Eq.trans (if_neg c_5) (Eq.trans (if_neg c_6) (Eq.trans (if_neg c_7) (if_pos c_8)))))))))
                · refine lv_iload_n hx hb dX2_inYear_11 rfl (lv_at hl 1 rfl) ?_
                  refine lv_iload_n hx hb dX2_inYear_12 rfl (lv_at hl 2 rfl) ?_
                  refine lv_iload hx hb dX2_inYear_13 (lv_at hl 0 rfl) ?_
                  refine rcSi (as := [.int p0, .int (8 : Int32)]) (rest := [.int (((((((p2 + (fX2_daysOf p0 (1 : Int32))) + (fX2_daysOf p0 (2 : Int32))) + (fX2_daysOf p0 (3 : Int32))) + (fX2_daysOf p0 (4 : Int32))) + (fX2_daysOf p0 (5 : Int32))) + (fX2_daysOf p0 (6 : Int32))) + (fX2_daysOf p0 (7 : Int32)))]) C (c_X2_daysOf l G p0 (8 : Int32)) F_X2_daysOf rfl bw1223 bw1224 hE vpn hl.1 dX2_inYear_15 ⟨Nat.le_of_ble_eq_true rfl, Nat.le_of_ble_eq_true rfl⟩ rfl (Nat.le_of_ble_eq_true rfl) ⟨Nat.zero_le _, Nat.zero_le _⟩ ?_
                  refine lv_iadd hx hb dX2_inYear_18 ?_
                  refine lv_istore_n (lv' := [(3, .int ((((((((p2 + (fX2_daysOf p0 (1 : Int32))) + (fX2_daysOf p0 (2 : Int32))) + (fX2_daysOf p0 (3 : Int32))) + (fX2_daysOf p0 (4 : Int32))) + (fX2_daysOf p0 (5 : Int32))) + (fX2_daysOf p0 (6 : Int32))) + (fX2_daysOf p0 (7 : Int32))) + (fX2_daysOf p0 (8 : Int32)))), (4, .int (8 : Int32)), (0, .int p0), (1, .int p1), (2, .int p2)]) hx hb dX2_inYear_19 rfl hl (Nat.le_of_ble_eq_true rfl) rfl (fun ls hl => ?_)
                  refine lv_iinc (v := (9 : Int32)) (lv' := [(4, .int (9 : Int32)), (3, .int ((((((((p2 + (fX2_daysOf p0 (1 : Int32))) + (fX2_daysOf p0 (2 : Int32))) + (fX2_daysOf p0 (3 : Int32))) + (fX2_daysOf p0 (4 : Int32))) + (fX2_daysOf p0 (5 : Int32))) + (fX2_daysOf p0 (6 : Int32))) + (fX2_daysOf p0 (7 : Int32))) + (fX2_daysOf p0 (8 : Int32)))), (0, .int p0), (1, .int p1), (2, .int p2)]) hx hb dX2_inYear_20 hl (k := 1) rfl (by first | rfl | decide) (Nat.le_of_ble_eq_true rfl) rfl (fun ls hl => ?_)
                  refine lv_goto (tgt := 5) hx hb dX2_inYear_23 (by decide) ?_
                  refine lv_iload hx hb dX2_inYear_5 (lv_at hl 0 rfl) ?_
                  refine lv_iload_n hx hb dX2_inYear_7 rfl (lv_at hl 3 rfl) ?_
                  refine lv_icmp_ge (tgt := 26) hx hb dX2_inYear_8 (by decide) (fun c_9 => ?_) (fun c_9 => ?_)
                  · refine lv_iload_n hx hb dX2_inYear_26 rfl (lv_at hl 1 rfl) ?_
                    exact re_i hx hb hr hk dX2_inYear_27 (ei (Eq.trans (if_neg c_1) (Eq.trans (if_neg c_2) (Eq.trans (if_neg c_3) (Eq.trans (if_neg c_4) (Eq.trans (if_neg c_5) (Eq.trans (if_neg c_6) (Eq.trans (if_neg c_7) (Eq.trans (if_neg c_8) (if_pos c_9))))))))))
                  · refine lv_iload_n hx hb dX2_inYear_11 rfl (lv_at hl 1 rfl) ?_
                    refine lv_iload_n hx hb dX2_inYear_12 rfl (lv_at hl 2 rfl) ?_
                    refine lv_iload hx hb dX2_inYear_13 (lv_at hl 0 rfl) ?_
                    refine rcSi (as := [.int p0, .int (9 : Int32)]) (rest := [.int ((((((((p2 + (fX2_daysOf p0 (1 : Int32))) + (fX2_daysOf p0 (2 : Int32))) + (fX2_daysOf p0 (3 : Int32))) + (fX2_daysOf p0 (4 : Int32))) + (fX2_daysOf p0 (5 : Int32))) + (fX2_daysOf p0 (6 : Int32))) + (fX2_daysOf p0 (7 : Int32))) + (fX2_daysOf p0 (8 : Int32)))]) C (c_X2_daysOf l G p0 (9 : Int32)) F_X2_daysOf rfl bw1223 bw1224 hE vpn hl.1 dX2_inYear_15 ⟨Nat.le_of_ble_eq_true rfl, Nat.le_of_ble_eq_true rfl⟩ rfl (Nat.le_of_ble_eq_true rfl) ⟨Nat.zero_le _, Nat.zero_le _⟩ ?_
                    refine lv_iadd hx hb dX2_inYear_18 ?_
                    refine lv_istore_n (lv' := [(3, .int (((((((((p2 + (fX2_daysOf p0 (1 : Int32))) + (fX2_daysOf p0 (2 : Int32))) + (fX2_daysOf p0 (3 : Int32))) + (fX2_daysOf p0 (4 : Int32))) + (fX2_daysOf p0 (5 : Int32))) + (fX2_daysOf p0 (6 : Int32))) + (fX2_daysOf p0 (7 : Int32))) + (fX2_daysOf p0 (8 : Int32))) + (fX2_daysOf p0 (9 : Int32)))), (4, .int (9 : Int32)), (0, .int p0), (1, .int p1), (2, .int p2)]) hx hb dX2_inYear_19 rfl hl (Nat.le_of_ble_eq_true rfl) rfl (fun ls hl => ?_)
                    refine lv_iinc (v := (10 : Int32)) (lv' := [(4, .int (10 : Int32)), (3, .int (((((((((p2 + (fX2_daysOf p0 (1 : Int32))) + (fX2_daysOf p0 (2 : Int32))) + (fX2_daysOf p0 (3 : Int32))) + (fX2_daysOf p0 (4 : Int32))) + (fX2_daysOf p0 (5 : Int32))) + (fX2_daysOf p0 (6 : Int32))) + (fX2_daysOf p0 (7 : Int32))) + (fX2_daysOf p0 (8 : Int32))) + (fX2_daysOf p0 (9 : Int32)))), (0, .int p0), (1, .int p1), (2, .int p2)]) hx hb dX2_inYear_20 hl (k := 1) rfl (by first | rfl | decide) (Nat.le_of_ble_eq_true rfl) rfl (fun ls hl => ?_)
                    refine lv_goto (tgt := 5) hx hb dX2_inYear_23 (by decide) ?_
                    refine lv_iload hx hb dX2_inYear_5 (lv_at hl 0 rfl) ?_
                    refine lv_iload_n hx hb dX2_inYear_7 rfl (lv_at hl 3 rfl) ?_
                    refine lv_icmp_ge (tgt := 26) hx hb dX2_inYear_8 (by decide) (fun c_10 => ?_) (fun c_10 => ?_)
                    · refine lv_iload_n hx hb dX2_inYear_26 rfl (lv_at hl 1 rfl) ?_
                      exact re_i hx hb hr hk dX2_inYear_27 (ei (Eq.trans (if_neg c_1) (Eq.trans (if_neg c_2) (Eq.trans (if_neg c_3) (Eq.trans (if_neg c_4) (Eq.trans (if_neg c_5) (Eq.trans (if_neg c_6) (Eq.trans (if_neg c_7) (Eq.trans (if_neg c_8) (Eq.trans (if_neg c_9) (if_pos c_10)))))))))))
                    · refine lv_iload_n hx hb dX2_inYear_11 rfl (lv_at hl 1 rfl) ?_
                      refine lv_iload_n hx hb dX2_inYear_12 rfl (lv_at hl 2 rfl) ?_
                      refine lv_iload hx hb dX2_inYear_13 (lv_at hl 0 rfl) ?_
                      refine rcSi (as := [.int p0, .int (10 : Int32)]) (rest := [.int (((((((((p2 + (fX2_daysOf p0 (1 : Int32))) + (fX2_daysOf p0 (2 : Int32))) + (fX2_daysOf p0 (3 : Int32))) + (fX2_daysOf p0 (4 : Int32))) + (fX2_daysOf p0 (5 : Int32))) + (fX2_daysOf p0 (6 : Int32))) + (fX2_daysOf p0 (7 : Int32))) + (fX2_daysOf p0 (8 : Int32))) + (fX2_daysOf p0 (9 : Int32)))]) C (c_X2_daysOf l G p0 (10 : Int32)) F_X2_daysOf rfl bw1223 bw1224 hE vpn hl.1 dX2_inYear_15 ⟨Nat.le_of_ble_eq_true rfl, Nat.le_of_ble_eq_true rfl⟩ rfl (Nat.le_of_ble_eq_true rfl) ⟨Nat.zero_le _, Nat.zero_le _⟩ ?_
                      refine lv_iadd hx hb dX2_inYear_18 ?_
                      refine lv_istore_n (lv' := [(3, .int ((((((((((p2 + (fX2_daysOf p0 (1 : Int32))) + (fX2_daysOf p0 (2 : Int32))) + (fX2_daysOf p0 (3 : Int32))) + (fX2_daysOf p0 (4 : Int32))) + (fX2_daysOf p0 (5 : Int32))) + (fX2_daysOf p0 (6 : Int32))) + (fX2_daysOf p0 (7 : Int32))) + (fX2_daysOf p0 (8 : Int32))) + (fX2_daysOf p0 (9 : Int32))) + (fX2_daysOf p0 (10 : Int32)))), (4, .int (10 : Int32)), (0, .int p0), (1, .int p1), (2, .int p2)]) hx hb dX2_inYear_19 rfl hl (Nat.le_of_ble_eq_true rfl) rfl (fun ls hl => ?_)
                      refine lv_iinc (v := (11 : Int32)) (lv' := [(4, .int (11 : Int32)), (3, .int ((((((((((p2 + (fX2_daysOf p0 (1 : Int32))) + (fX2_daysOf p0 (2 : Int32))) + (fX2_daysOf p0 (3 : Int32))) + (fX2_daysOf p0 (4 : Int32))) + (fX2_daysOf p0 (5 : Int32))) + (fX2_daysOf p0 (6 : Int32))) + (fX2_daysOf p0 (7 : Int32))) + (fX2_daysOf p0 (8 : Int32))) + (fX2_daysOf p0 (9 : Int32))) + (fX2_daysOf p0 (10 : Int32)))), (0, .int p0), (1, .int p1), (2, .int p2)]) hx hb dX2_inYear_20 hl (k := 1) rfl (by first | rfl | decide) (Nat.le_of_ble_eq_true rfl) rfl (fun ls hl => ?_)
                      refine lv_goto (tgt := 5) hx hb dX2_inYear_23 (by decide) ?_
                      refine lv_iload hx hb dX2_inYear_5 (lv_at hl 0 rfl) ?_
                      refine lv_iload_n hx hb dX2_inYear_7 rfl (lv_at hl 3 rfl) ?_
                      refine lv_icmp_ge (tgt := 26) hx hb dX2_inYear_8 (by decide) (fun c_11 => ?_) (fun c_11 => ?_)
                      · refine lv_iload_n hx hb dX2_inYear_26 rfl (lv_at hl 1 rfl) ?_
                        exact re_i hx hb hr hk dX2_inYear_27 (ei (Eq.trans (if_neg c_1) (Eq.trans (if_neg c_2) (Eq.trans (if_neg c_3) (Eq.trans (if_neg c_4) (Eq.trans (if_neg c_5) (Eq.trans (if_neg c_6) (Eq.trans (if_neg c_7) (Eq.trans (if_neg c_8) (Eq.trans (if_neg c_9) (Eq.trans (if_neg c_10) (if_pos c_11))))))))))))
                      · refine lv_iload_n hx hb dX2_inYear_11 rfl (lv_at hl 1 rfl) ?_
                        refine lv_iload_n hx hb dX2_inYear_12 rfl (lv_at hl 2 rfl) ?_
                        refine lv_iload hx hb dX2_inYear_13 (lv_at hl 0 rfl) ?_
                        refine rcSi (as := [.int p0, .int (11 : Int32)]) (rest := [.int ((((((((((p2 + (fX2_daysOf p0 (1 : Int32))) + (fX2_daysOf p0 (2 : Int32))) + (fX2_daysOf p0 (3 : Int32))) + (fX2_daysOf p0 (4 : Int32))) + (fX2_daysOf p0 (5 : Int32))) + (fX2_daysOf p0 (6 : Int32))) + (fX2_daysOf p0 (7 : Int32))) + (fX2_daysOf p0 (8 : Int32))) + (fX2_daysOf p0 (9 : Int32))) + (fX2_daysOf p0 (10 : Int32)))]) C (c_X2_daysOf l G p0 (11 : Int32)) F_X2_daysOf rfl bw1223 bw1224 hE vpn hl.1 dX2_inYear_15 ⟨Nat.le_of_ble_eq_true rfl, Nat.le_of_ble_eq_true rfl⟩ rfl (Nat.le_of_ble_eq_true rfl) ⟨Nat.zero_le _, Nat.zero_le _⟩ ?_
                        refine lv_iadd hx hb dX2_inYear_18 ?_
                        refine lv_istore_n (lv' := [(3, .int (((((((((((p2 + (fX2_daysOf p0 (1 : Int32))) + (fX2_daysOf p0 (2 : Int32))) + (fX2_daysOf p0 (3 : Int32))) + (fX2_daysOf p0 (4 : Int32))) + (fX2_daysOf p0 (5 : Int32))) + (fX2_daysOf p0 (6 : Int32))) + (fX2_daysOf p0 (7 : Int32))) + (fX2_daysOf p0 (8 : Int32))) + (fX2_daysOf p0 (9 : Int32))) + (fX2_daysOf p0 (10 : Int32))) + (fX2_daysOf p0 (11 : Int32)))), (4, .int (11 : Int32)), (0, .int p0), (1, .int p1), (2, .int p2)]) hx hb dX2_inYear_19 rfl hl (Nat.le_of_ble_eq_true rfl) rfl (fun ls hl => ?_)
                        refine lv_iinc (v := (12 : Int32)) (lv' := [(4, .int (12 : Int32)), (3, .int (((((((((((p2 + (fX2_daysOf p0 (1 : Int32))) + (fX2_daysOf p0 (2 : Int32))) + (fX2_daysOf p0 (3 : Int32))) + (fX2_daysOf p0 (4 : Int32))) + (fX2_daysOf p0 (5 : Int32))) + (fX2_daysOf p0 (6 : Int32))) + (fX2_daysOf p0 (7 : Int32))) + (fX2_daysOf p0 (8 : Int32))) + (fX2_daysOf p0 (9 : Int32))) + (fX2_daysOf p0 (10 : Int32))) + (fX2_daysOf p0 (11 : Int32)))), (0, .int p0), (1, .int p1), (2, .int p2)]) hx hb dX2_inYear_20 hl (k := 1) rfl (by first | rfl | decide) (Nat.le_of_ble_eq_true rfl) rfl (fun ls hl => ?_)
                        refine lv_goto (tgt := 5) hx hb dX2_inYear_23 (by decide) ?_
                        refine lv_iload hx hb dX2_inYear_5 (lv_at hl 0 rfl) ?_
                        refine lv_iload_n hx hb dX2_inYear_7 rfl (lv_at hl 3 rfl) ?_
                        refine lv_icmp_ge (tgt := 26) hx hb dX2_inYear_8 (by decide) (fun _ => ?_) (fun c_x => absurd h1 c_x)
                        refine lv_iload_n hx hb dX2_inYear_26 rfl (lv_at hl 1 rfl) ?_
                        exact re_i hx hb hr hk dX2_inYear_27 (ei (Eq.trans (if_neg c_1) (Eq.trans (if_neg c_2) (Eq.trans (if_neg c_3) (Eq.trans (if_neg c_4) (Eq.trans (if_neg c_5) (Eq.trans (if_neg c_6) (Eq.trans (if_neg c_7) (Eq.trans (if_neg c_8) (Eq.trans (if_neg c_9) (Eq.trans (if_neg c_10) (if_neg c_11))))))))))))

set_option maxRecDepth 100000 in
set_option maxHeartbeats 4000000 in
theorem c_X2_dayOf (l : Launch) (G : GT) (p0 : Int32) (p1 : Int32) (p2 : Int32) (h1 : p1 ≤ (12 : Int32)) : RO l G yX2_dayOf cX2_dayOf 3 (some .long) 4 [.int p0, .int p1, .int p2] [] (some (.long (fX2_dayOf p0 p1 p2))) := by
  refine RO.ofW (own := RX2) rfl (plainFor_of_name pnN_RX2) (Nat.le_of_ble_eq_true rfl) ?_
  intro p e s m below meth c C hr hk hE hP ls hl
  have hx := C.1
  have hb := C.2.1
  have hown := C.2.2.2.1
  have hw := C.2.2.2.2
  have hl : lv_has ls 3 [(0, .int p0), (1, .int p1), (2, .int p2)] := hl
  refine lv_iload_n hx hb dX2_dayOf_0 rfl (lv_at hl 0 rfl) ?_
  refine lv_i2l (v := (p0.toInt64)) hx hb dX2_dayOf_1 (by first | rfl | decide) ?_
  refine rcSl (as := [.long (p0.toInt64)]) (rest := []) C (c_X2_ahead l G (p0.toInt64)) F_X2_ahead rfl bw1254 bw1255 hE vpn hl.1 dX2_dayOf_2 ⟨Nat.le_of_ble_eq_true rfl, Nat.le_of_ble_eq_true rfl⟩ rfl (Nat.le_of_ble_eq_true rfl) ⟨Nat.zero_le _, Nat.zero_le _⟩ ?_
  refine lv_ldc2 (v := (1970 : Int64)) hx hb hown (hw _ bw1267) dX2_dayOf_5 ?_
  refine rcSl (as := [.long (1970 : Int64)]) (rest := [.long (fX2_ahead (p0.toInt64))]) C (c_X2_ahead l G (1970 : Int64)) F_X2_ahead rfl bw1254 bw1255 hE vpn hl.1 dX2_dayOf_8 ⟨Nat.le_of_ble_eq_true rfl, Nat.le_of_ble_eq_true rfl⟩ rfl (Nat.le_of_ble_eq_true rfl) ⟨Nat.zero_le _, Nat.zero_le _⟩ ?_
  refine lv_lsub hx hb dX2_dayOf_11 ?_
  refine lv_iload_n hx hb dX2_dayOf_12 rfl (lv_at hl 0 rfl) ?_
  refine lv_iload_n hx hb dX2_dayOf_13 rfl (lv_at hl 1 rfl) ?_
  refine lv_iload_n hx hb dX2_dayOf_14 rfl (lv_at hl 2 rfl) ?_
  refine rcSi (as := [.int p0, .int p1, .int p2]) (rest := [.long ((fX2_ahead (p0.toInt64)) - (fX2_ahead (1970 : Int64)))]) C (c_X2_inYear l G p0 p1 p2 h1) F_X2_inYear rfl bw1268 bw1269 hE vpn hl.1 dX2_dayOf_15 ⟨Nat.le_of_ble_eq_true rfl, Nat.le_of_ble_eq_true rfl⟩ rfl (Nat.le_of_ble_eq_true rfl) ⟨Nat.zero_le _, Nat.zero_le _⟩ ?_
  refine lv_i2l (v := ((fX2_inYear p0 p1 p2).toInt64)) hx hb dX2_dayOf_18 (by first | rfl | decide) ?_
  refine lv_ladd hx hb dX2_dayOf_19 ?_
  refine lv_lconst (v := (1 : Int64)) hx hb dX2_dayOf_20 ql_1 ?_
  refine lv_lsub hx hb dX2_dayOf_21 ?_
  exact re_l hx hb hr hk dX2_dayOf_22 (el rfl)

set_option maxRecDepth 100000 in
set_option maxHeartbeats 4000000 in
theorem c_X0_checkMoment (l : Launch) (G : GT) (p0 : Int32) (h0 : vp_in p0 6) : RO l G yX0_checkMoment cX0_checkMoment 1 none 1 [.int p0] [] none := by
  refine RO.ofW (own := RX0) rfl (plainFor_of_name pnN_RX0) (Nat.le_of_ble_eq_true rfl) ?_
  intro p e s m below meth c C hr hk hE hP ls hl
  have hx := C.1
  have hb := C.2.1
  have hown := C.2.2.2.1
  have hw := C.2.2.2.2
  have hl : lv_has ls 1 [(0, .int p0)] := hl
  refine lv_iload_n hx hb dX0_checkMoment_0 rfl (lv_at hl 0 rfl) ?_
  refine lv_if_lt (tgt := 10) hx hb dX0_checkMoment_1 (by decide) (fun c_x => absurd c_x (vin_nn h0)) (fun _ => ?_)
  refine lv_iload_n hx hb dX0_checkMoment_4 rfl (lv_at hl 0 rfl) ?_
  refine lv_bipush (v := (6 : Int32)) hx hb dX0_checkMoment_5 qb_6 ?_
  refine lv_icmp_lt (tgt := 20) hx hb dX0_checkMoment_7 (by decide) (fun _ => ?_) (fun c_x => absurd (vin_lt (by decide) h0) c_x)
  exact re_v hx hb hr hk dX0_checkMoment_20 rfl

set_option maxRecDepth 100000 in
set_option maxHeartbeats 4000000 in
theorem c_X0_checkRange (l : Launch) (G : GT) (p0 : Int32) (p1 : Int32) (p2 : Int32) (h1 : ¬ p0 < p1) (h2 : p0 ≤ p2) : RO l G yX0_checkRange cX0_checkRange 3 none 1 [.int p0, .int p1, .int p2] [] none := by
  refine RO.ofW (own := RX0) rfl (plainFor_of_name pnN_RX0) (Nat.le_of_ble_eq_true rfl) ?_
  intro p e s m below meth c C hr hk hE hP ls hl
  have hx := C.1
  have hb := C.2.1
  have hown := C.2.2.2.1
  have hw := C.2.2.2.2
  have hl : lv_has ls 3 [(0, .int p0), (1, .int p1), (2, .int p2)] := hl
  refine lv_iload_n hx hb dX0_checkRange_0 rfl (lv_at hl 0 rfl) ?_
  refine lv_iload_n hx hb dX0_checkRange_1 rfl (lv_at hl 1 rfl) ?_
  refine lv_icmp_lt (tgt := 10) hx hb dX0_checkRange_2 (by decide) (fun c_x => absurd c_x h1) (fun _ => ?_)
  refine lv_iload_n hx hb dX0_checkRange_5 rfl (lv_at hl 0 rfl) ?_
  refine lv_iload_n hx hb dX0_checkRange_6 rfl (lv_at hl 2 rfl) ?_
  refine lv_icmp_le (tgt := 20) hx hb dX0_checkRange_7 (by decide) (fun _ => ?_) (fun c_x => absurd h2 c_x)
  exact re_v hx hb hr hk dX0_checkRange_20 rfl
