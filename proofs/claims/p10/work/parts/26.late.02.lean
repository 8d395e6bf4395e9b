set_option maxRecDepth 100000 in
set_option maxHeartbeats 4000000 in
theorem c_J1_canEncode_fc78d (l : Launch) (G : GT) (p0 : Int32) : RO l G yJ1_canEncode_fc78d cJ1_canEncode_fc78d 1 (some .boolean) 1 [.int p0] [] (some (.int (fJ1_canEncode_fc78d p0))) := by
  refine RO.ofW (own := RJ1) rfl (by decide +kernel) (Nat.le_of_ble_eq_true rfl) ?_
  intro p e s m below meth c C hr hk hE hP ls hl
  have hx := C.1
  have hb := C.2.1
  have hown := C.2.2.2.1
  have hw := C.2.2.2.2
  have hl : lv_has ls 1 [(0, .int p0)] := hl
  refine lv_iload_n hx hb dJ1_canEncode_fc78d_0 rfl (lv_at hl 0 rfl) ?_
  refine lv_sipush (v := (255 : Int32)) hx hb dJ1_canEncode_fc78d_1 (by decide) ?_
  refine lv_icmp_gt (tgt := 11) hx hb dJ1_canEncode_fc78d_4 (by decide) (fun c_1 => ?_) (fun c_1 => ?_)
  · refine lv_iconst (v := (0 : Int32)) hx hb dJ1_canEncode_fc78d_11 (by decide) ?_
    exact re_z (ty := .boolean) hx hb hr hk (by decide) dJ1_canEncode_fc78d_12 (ei (if_pos c_1))
  · refine lv_iconst (v := (1 : Int32)) hx hb dJ1_canEncode_fc78d_7 (by decide) ?_
    refine lv_goto (tgt := 12) hx hb dJ1_canEncode_fc78d_8 (by decide) ?_
    exact re_z (ty := .boolean) hx hb hr hk (by decide) dJ1_canEncode_fc78d_12 (ei (if_neg c_1))

