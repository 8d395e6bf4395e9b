set_option maxRecDepth 100000 in
set_option maxHeartbeats 4000000 in
theorem c_X0_goUnits (l : Launch) (G : GT) (a : Nat → Nat) (S : SX) (p0 : Int32) (p1 : Int64) (p2 : Int32) (h0 : vp_in p0 6) : WR l G yX0_goUnits cX0_goUnits 11 (some .int) 7 0 0 [.ref (a 0), .int p0, .long p1, .int p2] (wX G a S) (wX G a (gX0_goUnits S p0 p1 p2).2) (some (.int (gX0_goUnits S p0 p1 p2).1)) := by
  refine WR.ofW (own := RX0) rfl (by decide +kernel) (Nat.le_of_ble_eq_true rfl) ?_
  intro p e s m below meth c A C hr hk hnm hE hP hD hA hAB hS ls hl
  have hx := C.1
  have hb := C.2.1
  have hown := C.2.2.2.1
  have hw := C.2.2.2.2
  have hl : lv_has ls 11 [(0, .ref (a 0)), (1, .int p0), (2, .long p1), (4, .int p2)] := hl
  refine lv_iload hx hb dX0_goUnits_0 (lv_at hl 3 rfl) ?_
  refine lv_bipush (v := (8 : Int32)) hx hb dX0_goUnits_2 (by decide) ?_
  refine lv_icmp_ne (tgt := 19) hx hb dX0_goUnits_4 (by decide) (fun c_1 => ?_) (fun c_1 => ?_)
  · refine lv_iload hx hb dX0_goUnits_19 (lv_at hl 3 rfl) ?_
    refine rcSl (as := [.int p2]) (rest := []) C (c_X0_nanosOfUnit l G p2) F_X0_nanosOfUnit rfl bw223 bw224 (hE.S hS hAB) vpn hl.1 dX0_goUnits_21 ⟨Nat.le_of_ble_eq_true rfl, Nat.le_of_ble_eq_true rfl⟩ rfl (Nat.le_of_ble_eq_true rfl) ⟨Nat.le_of_ble_eq_true rfl, Nat.le_of_ble_eq_true rfl⟩ ?_
    refine lv_lstore (lv' := [(5, .long (fX0_nanosOfUnit p2)), (0, .ref (a 0)), (1, .int p0), (2, .long p1), (4, .int p2)]) hx hb dX0_goUnits_24 hl (Nat.le_of_ble_eq_true rfl) rfl (fun ls hl => ?_)
    refine lv_ldc2 (v := (86400000000000 : Int64)) hx hb hown (hw _ bw190) dX0_goUnits_26 ?_
    refine lv_lload hx hb dX0_goUnits_29 (lv_at hl 0 rfl) ?_
    refine rcSl (as := [.long (86400000000000 : Int64), .long (fX0_nanosOfUnit p2)]) (rest := []) C (c_X0_quotient l G (86400000000000 : Int64) (fX0_nanosOfUnit p2)) F_X0_quotient rfl bw229 bw230 (hE.S hS hAB) vpn hl.1 dX0_goUnits_31 ⟨Nat.le_of_ble_eq_true rfl, Nat.le_of_ble_eq_true rfl⟩ rfl (Nat.le_of_ble_eq_true rfl) ⟨Nat.le_of_ble_eq_true rfl, Nat.le_of_ble_eq_true rfl⟩ ?_
    refine lv_lstore (lv' := [(7, .long (fX0_quotient (86400000000000 : Int64) (fX0_nanosOfUnit p2))), (5, .long (fX0_nanosOfUnit p2)), (0, .ref (a 0)), (1, .int p0), (2, .long p1), (4, .int p2)]) hx hb dX0_goUnits_34 hl (Nat.le_of_ble_eq_true rfl) rfl (fun ls hl => ?_)
    refine lv_lload_n hx hb dX0_goUnits_36 rfl (lv_at hl 4 rfl) ?_
    refine lv_lload hx hb dX0_goUnits_37 (lv_at hl 0 rfl) ?_
    refine rcSl (as := [.long p1, .long (fX0_quotient (86400000000000 : Int64) (fX0_nanosOfUnit p2))]) (rest := []) C (c_X0_quotient l G p1 (fX0_quotient (86400000000000 : Int64) (fX0_nanosOfUnit p2))) F_X0_quotient rfl bw229 bw230 (hE.S hS hAB) vpn hl.1 dX0_goUnits_39 ⟨Nat.le_of_ble_eq_true rfl, Nat.le_of_ble_eq_true rfl⟩ rfl (Nat.le_of_ble_eq_true rfl) ⟨Nat.le_of_ble_eq_true rfl, Nat.le_of_ble_eq_true rfl⟩ ?_
    refine lv_lstore (lv' := [(9, .long (fX0_quotient p1 (fX0_quotient (86400000000000 : Int64) (fX0_nanosOfUnit p2)))), (7, .long (fX0_quotient (86400000000000 : Int64) (fX0_nanosOfUnit p2))), (5, .long (fX0_nanosOfUnit p2)), (0, .ref (a 0)), (1, .int p0), (2, .long p1), (4, .int p2)]) hx hb dX0_goUnits_42 hl (Nat.le_of_ble_eq_true rfl) rfl (fun ls hl => ?_)
    refine lv_aload_n hx hb dX0_goUnits_44 rfl (lv_at hl 3 rfl) ?_
    refine lv_iload_n hx hb dX0_goUnits_45 rfl (lv_at hl 4 rfl) ?_
    refine lv_lload hx hb dX0_goUnits_46 (lv_at hl 0 rfl) ?_
    refine lv_lload_n hx hb dX0_goUnits_48 rfl (lv_at hl 5 rfl) ?_
    refine lv_lload hx hb dX0_goUnits_49 (lv_at hl 0 rfl) ?_
    refine lv_lload hx hb dX0_goUnits_51 (lv_at hl 1 rfl) ?_
    refine lv_lmul hx hb dX0_goUnits_53 ?_
    refine lv_lsub hx hb dX0_goUnits_54 ?_
    refine lv_lload hx hb dX0_goUnits_55 (lv_at hl 2 rfl) ?_
    refine lv_lmul hx hb dX0_goUnits_57 ?_
    refine wcVi (as := [.int p0, .long (fX0_quotient p1 (fX0_quotient (86400000000000 : Int64) (fX0_nanosOfUnit p2))), .long ((p1 - ((fX0_quotient p1 (fX0_quotient (86400000000000 : Int64) (fX0_nanosOfUnit p2))) * (fX0_quotient (86400000000000 : Int64) (fX0_nanosOfUnit p2)))) * (fX0_nanosOfUnit p2))]) (rest := []) (cl := RX0) C (c_X0_goLine l G a S p0 (fX0_quotient p1 (fX0_quotient (86400000000000 : Int64) (fX0_nanosOfUnit p2))) ((p1 - ((fX0_quotient p1 (fX0_quotient (86400000000000 : Int64) (fX0_nanosOfUnit p2))) * (fX0_quotient (86400000000000 : Int64) (fX0_nanosOfUnit p2)))) * (fX0_nanosOfUnit p2)) h0) F_X0_goLine rfl bw572 bw574 bw27 (hE.S hS hAB) hP hD hS hA hAB (va_recv hE.K hP (ci := 2) (q0 := 0) rfl rfl) hl.1 dX0_goUnits_58 ⟨Nat.le_of_ble_eq_true rfl, Nat.le_of_ble_eq_true rfl⟩ rfl (Nat.le_of_ble_eq_true rfl) ⟨Nat.le_of_ble_eq_true rfl, Nat.le_of_ble_eq_true rfl⟩ (fun H locs hP hD hS => ?_)
    exact we_i (wf := wX G a) hx hb hr hk hP hD hS (Nat.le_of_ble_eq_true rfl) (Nat.le_of_ble_eq_true rfl) dX0_goUnits_61 (if_neg c_1)
  · refine lv_aload_n hx hb dX0_goUnits_7 rfl (lv_at hl 0 rfl) ?_
    refine lv_iload_n hx hb dX0_goUnits_8 rfl (lv_at hl 1 rfl) ?_
    refine lv_ldc2 (v := (7 : Int64)) hx hb hown (hw _ bw248) dX0_goUnits_9 ?_
    refine lv_lload_n hx hb dX0_goUnits_12 rfl (lv_at hl 2 rfl) ?_
    refine lv_lmul hx hb dX0_goUnits_13 ?_
    refine lv_lconst (v := (0 : Int64)) hx hb dX0_goUnits_14 (by decide) ?_
    refine wcVi (as := [.int p0, .long ((7 : Int64) * p1), .long (0 : Int64)]) (rest := []) (cl := RX0) C (c_X0_goLine l G a S p0 ((7 : Int64) * p1) (0 : Int64) h0) F_X0_goLine rfl bw572 bw574 bw27 (hE.S hS hAB) hP hD hS hA hAB (va_recv hE.K hP (ci := 2) (q0 := 0) rfl rfl) hl.1 dX0_goUnits_15 ⟨Nat.le_of_ble_eq_true rfl, Nat.le_of_ble_eq_true rfl⟩ rfl (Nat.le_of_ble_eq_true rfl) ⟨Nat.le_of_ble_eq_true rfl, Nat.le_of_ble_eq_true rfl⟩ (fun H locs hP hD hS => ?_)
    exact we_i (wf := wX G a) hx hb hr hk hP hD hS (Nat.le_of_ble_eq_true rfl) (Nat.le_of_ble_eq_true rfl) dX0_goUnits_18 (if_pos c_1)

set_option maxRecDepth 100000 in
set_option maxHeartbeats 4000000 in
theorem c_X0_hand (l : Launch) (G : GT) (a : Nat → Nat) (S : SX) (p0 : Int32) (p1 : Int32) (p2 : Int32) (p3 : Int32) (r0 : ¬ p0 < (0 : Int32)) (q0 : p0 ≤ (23 : Int32)) (r1 : ¬ p1 < (0 : Int32)) (q1 : p1 ≤ (59 : Int32)) (r2 : ¬ p2 < (0 : Int32)) (q2 : p2 ≤ (59 : Int32)) (r3 : ¬ p3 < (0 : Int32)) (q3 : p3 ≤ (999999999 : Int32)) : WR l G yX0_hand cX0_hand 6 (some .int) 8 0 0 [.ref (a 0), .int p0, .int p1, .int p2, .int p3] (wX G a S) (wX G a (gX0_hand S p0 p1 p2 p3).2) (some (.int (gX0_hand S p0 p1 p2 p3).1)) := by
  refine WR.ofW (own := RX0) rfl (by decide +kernel) (Nat.le_of_ble_eq_true rfl) ?_
  intro p e s m below meth c A C hr hk hnm hE hP hD hA hAB hS ls hl
  have hx := C.1
  have hb := C.2.1
  have hown := C.2.2.2.1
  have hw := C.2.2.2.2
  have hl : lv_has ls 6 [(0, .ref (a 0)), (1, .int p0), (2, .int p1), (3, .int p2), (4, .int p3)] := hl
  refine lv_iload_n hx hb dX0_hand_0 rfl (lv_at hl 1 rfl) ?_
  refine lv_iconst (v := (0 : Int32)) hx hb dX0_hand_1 (by decide) ?_
  refine lv_bipush (v := (23 : Int32)) hx hb dX0_hand_2 (by decide) ?_
  refine rcSv (as := [.int p0, .int (0 : Int32), .int (23 : Int32)]) (rest := []) C (c_X0_checkRange l G p0 (0 : Int32) (23 : Int32) r0 q0) F_X0_checkRange rfl bw308 bw309 (hE.S hS hAB) vpn hl.1 dX0_hand_4 ⟨Nat.le_of_ble_eq_true rfl, Nat.le_of_ble_eq_true rfl⟩ rfl (Nat.le_of_ble_eq_true rfl) ⟨Nat.le_of_ble_eq_true rfl, Nat.le_of_ble_eq_true rfl⟩ ?_
  refine lv_iload_n hx hb dX0_hand_7 rfl (lv_at hl 2 rfl) ?_
  refine lv_iconst (v := (0 : Int32)) hx hb dX0_hand_8 (by decide) ?_
  refine lv_bipush (v := (59 : Int32)) hx hb dX0_hand_9 (by decide) ?_
  refine rcSv (as := [.int p1, .int (0 : Int32), .int (59 : Int32)]) (rest := []) C (c_X0_checkRange l G p1 (0 : Int32) (59 : Int32) r1 q1) F_X0_checkRange rfl bw308 bw309 (hE.S hS hAB) vpn hl.1 dX0_hand_11 ⟨Nat.le_of_ble_eq_true rfl, Nat.le_of_ble_eq_true rfl⟩ rfl (Nat.le_of_ble_eq_true rfl) ⟨Nat.le_of_ble_eq_true rfl, Nat.le_of_ble_eq_true rfl⟩ ?_
  refine lv_iload_n hx hb dX0_hand_14 rfl (lv_at hl 3 rfl) ?_
  refine lv_iconst (v := (0 : Int32)) hx hb dX0_hand_15 (by decide) ?_
  refine lv_bipush (v := (59 : Int32)) hx hb dX0_hand_16 (by decide) ?_
  refine rcSv (as := [.int p2, .int (0 : Int32), .int (59 : Int32)]) (rest := []) C (c_X0_checkRange l G p2 (0 : Int32) (59 : Int32) r2 q2) F_X0_checkRange rfl bw308 bw309 (hE.S hS hAB) vpn hl.1 dX0_hand_18 ⟨Nat.le_of_ble_eq_true rfl, Nat.le_of_ble_eq_true rfl⟩ rfl (Nat.le_of_ble_eq_true rfl) ⟨Nat.le_of_ble_eq_true rfl, Nat.le_of_ble_eq_true rfl⟩ ?_
  refine lv_iload hx hb dX0_hand_21 (lv_at hl 4 rfl) ?_
  refine lv_iconst (v := (0 : Int32)) hx hb dX0_hand_23 (by decide) ?_
  refine lv_ldc (v := (999999999 : Int32)) hx hb hown (hw _ bw378) dX0_hand_24 ?_
  refine rcSv (as := [.int p3, .int (0 : Int32), .int (999999999 : Int32)]) (rest := []) C (c_X0_checkRange l G p3 (0 : Int32) (999999999 : Int32) r3 q3) F_X0_checkRange rfl bw308 bw309 (hE.S hS hAB) vpn hl.1 dX0_hand_26 ⟨Nat.le_of_ble_eq_true rfl, Nat.le_of_ble_eq_true rfl⟩ rfl (Nat.le_of_ble_eq_true rfl) ⟨Nat.le_of_ble_eq_true rfl, Nat.le_of_ble_eq_true rfl⟩ ?_
  refine lv_aload_n hx hb dX0_hand_29 rfl (lv_at hl 0 rfl) ?_
  refine va_get (D := gD G) (cl := vwCl) (tys := gT G) (ci := 2) (v := .int (xi S 0)) (C := RX0) (T := TX0) (N := 12) hx hb hw inB_X0 hown hE.K hP 0 rfl rfl 5 (by decide) (hw _ bw99) (fun _ h9 => h9) rfl dX0_hand_30 ?_
  refine lv_istore (lv' := [(5, .int (xi S 0)), (0, .ref (a 0)), (1, .int p0), (2, .int p1), (3, .int p2), (4, .int p3)]) hx hb dX0_hand_33 hl (Nat.le_of_ble_eq_true rfl) rfl (fun ls hl => ?_)
  refine lv_aload_n hx hb dX0_hand_35 rfl (lv_at hl 1 rfl) ?_
  refine lv_iload_n hx hb dX0_hand_36 rfl (lv_at hl 2 rfl) ?_
  refine va_put (D := gD G) (cl := vwCl) (tys := gT G) (ci := 2) (v := .int p0) (ty := .int) (C := RX0) (T := TX0) (N := 12) hx hb hw inB_X0 tyX0 tyX0_ok nmX0 hown hE.K hP hD hS 0 rfl rfl 5 (by decide) (hw _ bw99) (fun _ h9 => h9) rfl (by decide +kernel) rfl rfl (Nat.le_of_ble_eq_true rfl) dX0_hand_37 (fun H locs hP hD hS => ?_)
  have hP : va_P (gD G) vwCl (wX G a ((xy S), (xm S), (xd S), (xD S), (xN S), (upd (S.2.2.2.2.2) 0 p0))) H := hP
  have hD : va_D A (wX G a ((xy S), (xm S), (xd S), (xD S), (xN S), (upd (S.2.2.2.2.2) 0 p0))) := hD
  refine lv_aload_n hx hb dX0_hand_40 rfl (lv_at hl 1 rfl) ?_
  refine lv_iload_n hx hb dX0_hand_41 rfl (lv_at hl 3 rfl) ?_
  refine va_put (D := gD G) (cl := vwCl) (tys := gT G) (ci := 2) (v := .int p1) (ty := .int) (C := RX0) (T := TX0) (N := 12) hx hb hw inB_X0 tyX0 tyX0_ok nmX0 hown hE.K hP hD hS 0 rfl rfl 6 (by decide) (hw _ bw100) (fun _ h9 => h9) rfl (by decide +kernel) rfl rfl (Nat.le_of_ble_eq_true rfl) dX0_hand_42 (fun H locs hP hD hS => ?_)
  have hP : va_P (gD G) vwCl (wX G a ((xy S), (xm S), (xd S), (xD S), (xN S), (upd (upd (S.2.2.2.2.2) 0 p0) 1 p1))) H := hP
  have hD : va_D A (wX G a ((xy S), (xm S), (xd S), (xD S), (xN S), (upd (upd (S.2.2.2.2.2) 0 p0) 1 p1))) := hD
  refine lv_aload_n hx hb dX0_hand_45 rfl (lv_at hl 1 rfl) ?_
  refine lv_iload_n hx hb dX0_hand_46 rfl (lv_at hl 4 rfl) ?_
  refine va_put (D := gD G) (cl := vwCl) (tys := gT G) (ci := 2) (v := .int p2) (ty := .int) (C := RX0) (T := TX0) (N := 12) hx hb hw inB_X0 tyX0 tyX0_ok nmX0 hown hE.K hP hD hS 0 rfl rfl 7 (by decide) (hw _ bw101) (fun _ h9 => h9) rfl (by decide +kernel) rfl rfl (Nat.le_of_ble_eq_true rfl) dX0_hand_47 (fun H locs hP hD hS => ?_)
  have hP : va_P (gD G) vwCl (wX G a ((xy S), (xm S), (xd S), (xD S), (xN S), (upd (upd (upd (S.2.2.2.2.2) 0 p0) 1 p1) 2 p2))) H := hP
  have hD : va_D A (wX G a ((xy S), (xm S), (xd S), (xD S), (xN S), (upd (upd (upd (S.2.2.2.2.2) 0 p0) 1 p1) 2 p2))) := hD
  refine lv_aload_n hx hb dX0_hand_50 rfl (lv_at hl 1 rfl) ?_
  refine lv_iload hx hb dX0_hand_51 (lv_at hl 5 rfl) ?_
  refine va_put (D := gD G) (cl := vwCl) (tys := gT G) (ci := 2) (v := .int p3) (ty := .int) (C := RX0) (T := TX0) (N := 12) hx hb hw inB_X0 tyX0 tyX0_ok nmX0 hown hE.K hP hD hS 0 rfl rfl 8 (by decide) (hw _ bw102) (fun _ h9 => h9) rfl (by decide +kernel) rfl rfl (Nat.le_of_ble_eq_true rfl) dX0_hand_53 (fun H locs hP hD hS => ?_)
  have hP : va_P (gD G) vwCl (wX G a ((xy S), (xm S), (xd S), (xD S), (xN S), (upd (upd (upd (upd (S.2.2.2.2.2) 0 p0) 1 p1) 2 p2) 3 p3))) H := hP
  have hD : va_D A (wX G a ((xy S), (xm S), (xd S), (xD S), (xN S), (upd (upd (upd (upd (S.2.2.2.2.2) 0 p0) 1 p1) 2 p2) 3 p3))) := hD
  refine lv_iload hx hb dX0_hand_56 (lv_at hl 0 rfl) ?_
  exact we_i (wf := wX G a) hx hb hr hk hP hD hS (Nat.le_of_ble_eq_true rfl) (Nat.le_of_ble_eq_true rfl) dX0_hand_58 rfl

set_option maxRecDepth 100000 in
set_option maxHeartbeats 4000000 in
theorem c_X0_of (l : Launch) (G : GT) (a : Nat → Nat) (S : SX) (p0 : Int32) (p1 : Int32) (p2 : Int32) (p3 : Int32) (p4 : Int32) (h0 : vp_in p0 6) (r1 : ¬ p1 < (-9999 : Int32)) (q1 : p1 ≤ (9999 : Int32)) (r2 : ¬ p2 < (1 : Int32)) (q2 : p2 ≤ (12 : Int32)) (r3 : ¬ p3 < (1 : Int32)) (q3 : p3 ≤ (31 : Int32)) (r4 : ¬ p4 < (0 : Int32)) (q4 : p4 ≤ (6 : Int32)) : WR l G yX0_of cX0_of 6 (some .int) 8 0 0 [.ref (a 0), .int p0, .int p1, .int p2, .int p3, .int p4] (wX G a S) (wX G a (gX0_of S p0 p1 p2 p3 p4).2) (some (.int (gX0_of S p0 p1 p2 p3 p4).1)) := by
  refine WR.ofW (own := RX0) rfl (by decide +kernel) (Nat.le_of_ble_eq_true rfl) ?_
  intro p e s m below meth c A C hr hk hnm hE hP hD hA hAB hS ls hl
  have hx := C.1
  have hb := C.2.1
  have hown := C.2.2.2.1
  have hw := C.2.2.2.2
  have hl : lv_has ls 6 [(0, .ref (a 0)), (1, .int p0), (2, .int p1), (3, .int p2), (4, .int p3), (5, .int p4)] := hl
  refine lv_iload_n hx hb dX0_of_0 rfl (lv_at hl 1 rfl) ?_
  refine rcSv (as := [.int p0]) (rest := []) C (c_X0_checkMoment l G p0 h0) F_X0_checkMoment rfl bw387 bw388 (hE.S hS hAB) vpn hl.1 dX0_of_1 ⟨Nat.le_of_ble_eq_true rfl, Nat.le_of_ble_eq_true rfl⟩ rfl (Nat.le_of_ble_eq_true rfl) ⟨Nat.le_of_ble_eq_true rfl, Nat.le_of_ble_eq_true rfl⟩ ?_
  refine lv_iload_n hx hb dX0_of_4 rfl (lv_at hl 2 rfl) ?_
  refine lv_sipush (v := (-9999 : Int32)) hx hb dX0_of_5 (by decide) ?_
  refine lv_sipush (v := (9999 : Int32)) hx hb dX0_of_8 (by decide) ?_
  refine rcSv (as := [.int p1, .int (-9999 : Int32), .int (9999 : Int32)]) (rest := []) C (c_X0_checkRange l G p1 (-9999 : Int32) (9999 : Int32) r1 q1) F_X0_checkRange rfl bw308 bw309 (hE.S hS hAB) vpn hl.1 dX0_of_11 ⟨Nat.le_of_ble_eq_true rfl, Nat.le_of_ble_eq_true rfl⟩ rfl (Nat.le_of_ble_eq_true rfl) ⟨Nat.le_of_ble_eq_true rfl, Nat.le_of_ble_eq_true rfl⟩ ?_
  refine lv_iload_n hx hb dX0_of_14 rfl (lv_at hl 3 rfl) ?_
  refine lv_iconst (v := (1 : Int32)) hx hb dX0_of_15 (by decide) ?_
  refine lv_bipush (v := (12 : Int32)) hx hb dX0_of_16 (by decide) ?_
  refine rcSv (as := [.int p2, .int (1 : Int32), .int (12 : Int32)]) (rest := []) C (c_X0_checkRange l G p2 (1 : Int32) (12 : Int32) r2 q2) F_X0_checkRange rfl bw308 bw309 (hE.S hS hAB) vpn hl.1 dX0_of_18 ⟨Nat.le_of_ble_eq_true rfl, Nat.le_of_ble_eq_true rfl⟩ rfl (Nat.le_of_ble_eq_true rfl) ⟨Nat.le_of_ble_eq_true rfl, Nat.le_of_ble_eq_true rfl⟩ ?_
  refine lv_iload hx hb dX0_of_21 (lv_at hl 4 rfl) ?_
  refine lv_iconst (v := (1 : Int32)) hx hb dX0_of_23 (by decide) ?_
  refine lv_bipush (v := (31 : Int32)) hx hb dX0_of_24 (by decide) ?_
  refine rcSv (as := [.int p3, .int (1 : Int32), .int (31 : Int32)]) (rest := []) C (c_X0_checkRange l G p3 (1 : Int32) (31 : Int32) r3 q3) F_X0_checkRange rfl bw308 bw309 (hE.S hS hAB) vpn hl.1 dX0_of_26 ⟨Nat.le_of_ble_eq_true rfl, Nat.le_of_ble_eq_true rfl⟩ rfl (Nat.le_of_ble_eq_true rfl) ⟨Nat.le_of_ble_eq_true rfl, Nat.le_of_ble_eq_true rfl⟩ ?_
  refine lv_iload hx hb dX0_of_29 (lv_at hl 5 rfl) ?_
  refine lv_iconst (v := (0 : Int32)) hx hb dX0_of_31 (by decide) ?_
  refine lv_bipush (v := (6 : Int32)) hx hb dX0_of_32 (by decide) ?_
  refine rcSv (as := [.int p4, .int (0 : Int32), .int (6 : Int32)]) (rest := []) C (c_X0_checkRange l G p4 (0 : Int32) (6 : Int32) r4 q4) F_X0_checkRange rfl bw308 bw309 (hE.S hS hAB) vpn hl.1 dX0_of_34 ⟨Nat.le_of_ble_eq_true rfl, Nat.le_of_ble_eq_true rfl⟩ rfl (Nat.le_of_ble_eq_true rfl) ⟨Nat.le_of_ble_eq_true rfl, Nat.le_of_ble_eq_true rfl⟩ ?_
  refine lv_aload_n hx hb dX0_of_37 rfl (lv_at hl 0 rfl) ?_
  refine lv_iload_n hx hb dX0_of_38 rfl (lv_at hl 1 rfl) ?_
  refine lv_iload_n hx hb dX0_of_39 rfl (lv_at hl 2 rfl) ?_
  refine lv_iload_n hx hb dX0_of_40 rfl (lv_at hl 3 rfl) ?_
  refine lv_iload hx hb dX0_of_41 (lv_at hl 4 rfl) ?_
  refine lv_aload_n hx hb dX0_of_43 rfl (lv_at hl 0 rfl) ?_
  refine lv_iload hx hb dX0_of_44 (lv_at hl 5 rfl) ?_
  refine rcVl (as := [.int p4]) (rest := [.int p3, .int p2, .int p1, .int p0, .ref (a 0)]) (cl := RX0) C (c_X0_handTime l G a S p4) F_X0_handTime rfl bw406 bw408 bw18 (hE.S hS hAB) hP (va_recv hE.K hP (ci := 2) (q0 := 0) rfl rfl) hl.1 dX0_of_46 ⟨Nat.le_of_ble_eq_true rfl, Nat.le_of_ble_eq_true rfl⟩ rfl (Nat.le_of_ble_eq_true rfl) ⟨Nat.le_of_ble_eq_true rfl, Nat.le_of_ble_eq_true rfl⟩ ?_
  refine wcVi (as := [.int p0, .int p1, .int p2, .int p3, .long (fX0_handTime S p4)]) (rest := []) (cl := RX0) C (c_X0_becomeDate l G a S p0 p1 p2 p3 (fX0_handTime S p4) h0) F_X0_becomeDate rfl bw410 bw412 bw19 (hE.S hS hAB) hP hD hS hA hAB (va_recv hE.K hP (ci := 2) (q0 := 0) rfl rfl) hl.1 dX0_of_49 ⟨Nat.le_of_ble_eq_true rfl, Nat.le_of_ble_eq_true rfl⟩ rfl (Nat.le_of_ble_eq_true rfl) ⟨Nat.le_of_ble_eq_true rfl, Nat.le_of_ble_eq_true rfl⟩ (fun H locs hP hD hS => ?_)
  exact we_i (wf := wX G a) hx hb hr hk hP hD hS (Nat.le_of_ble_eq_true rfl) (Nat.le_of_ble_eq_true rfl) dX0_of_52 rfl

