set_option maxRecDepth 100000 in
set_option maxHeartbeats 4000000 in
theorem c_X2_order (l : Launch) (G : GT) (b : Nat → Nat) (T : SM) (p0 : Int32) (p1 : Int32) (h0 : vp_in p0 6) (h1 : vp_in p1 6) (hT : MO T) : RO l G yX2_order cX2_order 7 (some .int) 6 [.ref (b 0), .int p0, .int p1] (wM G b T) (some (.int (fX2_order T p0 p1))) := by
  refine RO.ofW (own := RX2) rfl (by decide +kernel) (Nat.le_of_ble_eq_true rfl) ?_
  intro p e s m below meth c C hr hk hE hP ls hl
  have hx := C.1
  have hb := C.2.1
  have hown := C.2.2.2.1
  have hw := C.2.2.2.2
  have hl : lv_has ls 7 [(0, .ref (b 0)), (1, .int p0), (2, .int p1)] := hl
  refine lv_aload_n hx hb dX2_order_0 rfl (lv_at hl 0 rfl) ?_
  refine lv_iload_n hx hb dX2_order_1 rfl (lv_at hl 1 rfl) ?_
  refine rcVl (as := [.int p0]) (rest := []) (cl := RX2) C (c_X2_dayNow l G b T p0 h0 hT) F_X2_dayNow rfl bw1247 bw1249 bw38 hE hP (va_recv hE.K hP (ci := 4) (q0 := 0) rfl rfl) hl.1 dX2_order_2 ⟨Nat.le_of_ble_eq_true rfl, Nat.le_of_ble_eq_true rfl⟩ rfl (Nat.le_of_ble_eq_true rfl) ⟨Nat.zero_le _, Nat.zero_le _⟩ ?_
  refine lv_aload_n hx hb dX2_order_5 rfl (lv_at hl 0 rfl) ?_
  refine lv_iload_n hx hb dX2_order_6 rfl (lv_at hl 2 rfl) ?_
  refine rcVl (as := [.int p1]) (rest := [.long (fX2_dayNow T p0)]) (cl := RX2) C (c_X2_dayNow l G b T p1 h1 hT) F_X2_dayNow rfl bw1247 bw1249 bw38 hE hP (va_recv hE.K hP (ci := 4) (q0 := 0) rfl rfl) hl.1 dX2_order_7 ⟨Nat.le_of_ble_eq_true rfl, Nat.le_of_ble_eq_true rfl⟩ rfl (Nat.le_of_ble_eq_true rfl) ⟨Nat.zero_le _, Nat.zero_le _⟩ ?_
  refine lv_lsub hx hb dX2_order_10 ?_
  refine lv_lstore_n (lv' := [(3, .long ((fX2_dayNow T p0) - (fX2_dayNow T p1))), (0, .ref (b 0)), (1, .int p0), (2, .int p1)]) hx hb dX2_order_11 rfl hl (Nat.le_of_ble_eq_true rfl) rfl (fun ls hl => ?_)
  refine lv_lload_n hx hb dX2_order_12 rfl (lv_at hl 0 rfl) ?_
  refine lv_lconst (v := (0 : Int64)) hx hb dX2_order_13 (by decide) ?_
  refine W.lcmp hx hb dX2_order_14 ?_
  refine lv_if_eq (tgt := 22) hx hb dX2_order_15 (by decide) (fun c_1 => ?_) (fun c_1 => ?_)
  · refine lv_aload_n hx hb dX2_order_22 rfl (lv_at hl 1 rfl) ?_
    refine va_get (D := gD G) (cl := vwCl) (tys := gT G) (ci := 4) (v := .ref (b 4)) (C := RX2) (T := TX2) (N := 12) hx hb hw inB_X2 hown hE.K hP 0 rfl rfl 4 (by decide) (hw _ bw1167) (fun _ h9 => h9) rfl dX2_order_23 ?_
    refine lv_iload_n hx hb dX2_order_26 rfl (lv_at hl 2 rfl) ?_
    refine va_lald (tys := gT G) hx hb hE.K hP 4 1 rfl rfl h0 dX2_order_27 ?_
    refine lv_aload_n hx hb dX2_order_28 rfl (lv_at hl 1 rfl) ?_
    refine va_get (D := gD G) (cl := vwCl) (tys := gT G) (ci := 4) (v := .ref (b 4)) (C := RX2) (T := TX2) (N := 12) hx hb hw inB_X2 hown hE.K hP 0 rfl rfl 4 (by decide) (hw _ bw1167) (fun _ h9 => h9) rfl dX2_order_29 ?_
    refine lv_iload_n hx hb dX2_order_32 rfl (lv_at hl 3 rfl) ?_
    refine va_lald (tys := gT G) hx hb hE.K hP 4 1 rfl rfl h1 dX2_order_33 ?_
    refine lv_lsub hx hb dX2_order_34 ?_
    refine lv_lstore (lv' := [(5, .long ((mt T p0.toNatClampNeg) - (mt T p1.toNatClampNeg))), (3, .long ((fX2_dayNow T p0) - (fX2_dayNow T p1))), (0, .ref (b 0)), (1, .int p0), (2, .int p1)]) hx hb dX2_order_35 hl (Nat.le_of_ble_eq_true rfl) rfl (fun ls hl => ?_)
    refine lv_lload hx hb dX2_order_37 (lv_at hl 0 rfl) ?_
    refine lv_lconst (v := (0 : Int64)) hx hb dX2_order_39 (by decide) ?_
    refine W.lcmp hx hb dX2_order_40 ?_
    refine lv_if_ge (tgt := 48) hx hb dX2_order_41 (by decide) (fun c_2 => ?_) (fun c_2 => ?_)
    · refine lv_lload hx hb dX2_order_48 (lv_at hl 0 rfl) ?_
      refine lv_lconst (v := (0 : Int64)) hx hb dX2_order_50 (by decide) ?_
      refine W.lcmp hx hb dX2_order_51 ?_
      refine lv_if_le (tgt := 59) hx hb dX2_order_52 (by decide) (fun c_3 => ?_) (fun c_3 => ?_)
      · refine lv_iconst (v := (0 : Int32)) hx hb dX2_order_59 (by decide) ?_
        exact re_i hx hb hr hk dX2_order_60 (ei (Eq.trans (if_pos c_1) (Eq.trans (if_pos c_2) (if_pos c_3))))
      · refine lv_iconst (v := (1 : Int32)) hx hb dX2_order_55 (by decide) ?_
        refine lv_goto (tgt := 60) hx hb dX2_order_56 (by decide) ?_
        exact re_i hx hb hr hk dX2_order_60 (ei (Eq.trans (if_pos c_1) (Eq.trans (if_pos c_2) (if_neg c_3))))
    · refine lv_iconst (v := (-1 : Int32)) hx hb dX2_order_44 (by decide) ?_
      refine lv_goto (tgt := 60) hx hb dX2_order_45 (by decide) ?_
      exact re_i hx hb hr hk dX2_order_60 (ei (Eq.trans (if_pos c_1) (if_neg c_2)))
  · refine lv_lload_n hx hb dX2_order_18 rfl (lv_at hl 0 rfl) ?_
    refine lv_goto (tgt := 35) hx hb dX2_order_19 (by decide) ?_
    refine lv_lstore (lv' := [(5, .long ((fX2_dayNow T p0) - (fX2_dayNow T p1))), (3, .long ((fX2_dayNow T p0) - (fX2_dayNow T p1))), (0, .ref (b 0)), (1, .int p0), (2, .int p1)]) hx hb dX2_order_35 hl (Nat.le_of_ble_eq_true rfl) rfl (fun ls hl => ?_)
    refine lv_lload hx hb dX2_order_37 (lv_at hl 0 rfl) ?_
    refine lv_lconst (v := (0 : Int64)) hx hb dX2_order_39 (by decide) ?_
    refine W.lcmp hx hb dX2_order_40 ?_
    refine lv_if_ge (tgt := 48) hx hb dX2_order_41 (by decide) (fun c_4 => ?_) (fun c_4 => ?_)
    · refine lv_lload hx hb dX2_order_48 (lv_at hl 0 rfl) ?_
      refine lv_lconst (v := (0 : Int64)) hx hb dX2_order_50 (by decide) ?_
      refine W.lcmp hx hb dX2_order_51 ?_
      refine lv_if_le (tgt := 59) hx hb dX2_order_52 (by decide) (fun c_5 => ?_) (fun c_5 => ?_)
      · refine lv_iconst (v := (0 : Int32)) hx hb dX2_order_59 (by decide) ?_
        exact re_i hx hb hr hk dX2_order_60 (ei (Eq.trans (if_neg c_1) (Eq.trans (if_pos c_4) (if_pos c_5))))
      · refine lv_iconst (v := (1 : Int32)) hx hb dX2_order_55 (by decide) ?_
        refine lv_goto (tgt := 60) hx hb dX2_order_56 (by decide) ?_
        exact re_i hx hb hr hk dX2_order_60 (ei (Eq.trans (if_neg c_1) (Eq.trans (if_pos c_4) (if_neg c_5))))
    · refine lv_iconst (v := (-1 : Int32)) hx hb dX2_order_44 (by decide) ?_
      refine lv_goto (tgt := 60) hx hb dX2_order_45 (by decide) ?_
      exact re_i hx hb hr hk dX2_order_60 (ei (Eq.trans (if_neg c_1) (if_neg c_4)))

