set_option maxRecDepth 100000 in
set_option maxHeartbeats 4000000 in
theorem c_X0_isSoundAlone (l : Launch) (G : GT) (a : Nat → Nat) (S : SX) (p0 : Int32) (h0 : vp_in p0 6) : RO l G yX0_isSoundAlone cX0_isSoundAlone 2 (some .boolean) 5 [.ref (a 0), .int p0] (wX G a S) (some (.int (fX0_isSoundAlone S p0))) := by
  refine RO.ofW (own := RX0) rfl (by decide +kernel) (Nat.le_of_ble_eq_true rfl) ?_
  intro p e s m below meth c C hr hk hE hP ls hl
  have hx := C.1
  have hb := C.2.1
  have hown := C.2.2.2.1
  have hw := C.2.2.2.2
  have hl : lv_has ls 2 [(0, .ref (a 0)), (1, .int p0)] := hl
  refine lv_aload_n hx hb dX0_isSoundAlone_0 rfl (lv_at hl 0 rfl) ?_
  refine lv_iload_n hx hb dX0_isSoundAlone_1 rfl (lv_at hl 1 rfl) ?_
  refine rcVi (as := [.int p0]) (rest := []) (cl := RX0) C (c_X0_isItsParts l G a S p0 h0) F_X0_isItsParts rfl bw145 bw147 bw1 hE hP (va_recv hE.K hP (ci := 2) (q0 := 0) rfl rfl) hl.1 dX0_isSoundAlone_2 ⟨Nat.le_of_ble_eq_true rfl, Nat.le_of_ble_eq_true rfl⟩ rfl (Nat.le_of_ble_eq_true rfl) ⟨Nat.zero_le _, Nat.zero_le _⟩ ?_
  refine lv_if_eq (tgt := 56) hx hb dX0_isSoundAlone_5 (by decide) (fun c_1 => ?_) (fun c_1 => ?_)
  · refine lv_iconst (v := (0 : Int32)) hx hb dX0_isSoundAlone_56 (by decide) ?_
    exact re_z (ty := .boolean) hx hb hr hk (by decide) dX0_isSoundAlone_57 (ei (if_pos c_1))
  · refine lv_aload_n hx hb dX0_isSoundAlone_8 rfl (lv_at hl 0 rfl) ?_
    refine lv_iload_n hx hb dX0_isSoundAlone_9 rfl (lv_at hl 1 rfl) ?_
    refine rcVi (as := [.int p0]) (rest := []) (cl := RX0) C (c_X0_isItsDateAndTime l G a S p0 h0) F_X0_isItsDateAndTime rfl bw178 bw180 bw2 hE hP (va_recv hE.K hP (ci := 2) (q0 := 0) rfl rfl) hl.1 dX0_isSoundAlone_10 ⟨Nat.le_of_ble_eq_true rfl, Nat.le_of_ble_eq_true rfl⟩ rfl (Nat.le_of_ble_eq_true rfl) ⟨Nat.zero_le _, Nat.zero_le _⟩ ?_
    refine lv_if_eq (tgt := 56) hx hb dX0_isSoundAlone_13 (by decide) (fun c_2 => ?_) (fun c_2 => ?_)
    · refine lv_iconst (v := (0 : Int32)) hx hb dX0_isSoundAlone_56 (by decide) ?_
      exact re_z (ty := .boolean) hx hb hr hk (by decide) dX0_isSoundAlone_57 (ei (Eq.trans (if_neg c_1) (if_pos c_2)))
    · refine lv_aload_n hx hb dX0_isSoundAlone_16 rfl (lv_at hl 0 rfl) ?_
      refine lv_iload_n hx hb dX0_isSoundAlone_17 rfl (lv_at hl 1 rfl) ?_
      refine rcVi (as := [.int p0]) (rest := []) (cl := RX0) C (c_X0_isBackFromNano l G a S p0 h0) F_X0_isBackFromNano rfl bw186 bw188 bw4 hE hP (va_recv hE.K hP (ci := 2) (q0 := 0) rfl rfl) hl.1 dX0_isSoundAlone_18 ⟨Nat.le_of_ble_eq_true rfl, Nat.le_of_ble_eq_true rfl⟩ rfl (Nat.le_of_ble_eq_true rfl) ⟨Nat.zero_le _, Nat.zero_le _⟩ ?_
      refine lv_if_eq (tgt := 56) hx hb dX0_isSoundAlone_21 (by decide) (fun c_3 => ?_) (fun c_3 => ?_)
      · refine lv_iconst (v := (0 : Int32)) hx hb dX0_isSoundAlone_56 (by decide) ?_
        exact re_z (ty := .boolean) hx hb hr hk (by decide) dX0_isSoundAlone_57 (ei (Eq.trans (if_neg c_1) (Eq.trans (if_neg c_2) (if_pos c_3))))
      · refine lv_aload_n hx hb dX0_isSoundAlone_24 rfl (lv_at hl 0 rfl) ?_
        refine lv_iload_n hx hb dX0_isSoundAlone_25 rfl (lv_at hl 1 rfl) ?_
        refine rcVi (as := [.int p0]) (rest := []) (cl := RX0) C (c_X0_isBackFromDay l G a S p0 h0) F_X0_isBackFromDay rfl bw202 bw204 bw6 hE hP (va_recv hE.K hP (ci := 2) (q0 := 0) rfl rfl) hl.1 dX0_isSoundAlone_26 ⟨Nat.le_of_ble_eq_true rfl, Nat.le_of_ble_eq_true rfl⟩ rfl (Nat.le_of_ble_eq_true rfl) ⟨Nat.zero_le _, Nat.zero_le _⟩ ?_
        refine lv_if_eq (tgt := 56) hx hb dX0_isSoundAlone_29 (by decide) (fun c_4 => ?_) (fun c_4 => ?_)
        · refine lv_iconst (v := (0 : Int32)) hx hb dX0_isSoundAlone_56 (by decide) ?_
          exact re_z (ty := .boolean) hx hb hr hk (by decide) dX0_isSoundAlone_57 (ei (Eq.trans (if_neg c_1) (Eq.trans (if_neg c_2) (Eq.trans (if_neg c_3) (if_pos c_4)))))
        · refine lv_aload_n hx hb dX0_isSoundAlone_32 rfl (lv_at hl 0 rfl) ?_
          refine lv_iload_n hx hb dX0_isSoundAlone_33 rfl (lv_at hl 1 rfl) ?_
          refine rcVi (as := [.int p0]) (rest := []) (cl := RX0) C (c_X0_isBackFromCycle l G a S p0 h0) F_X0_isBackFromCycle rfl bw206 bw208 bw7 hE hP (va_recv hE.K hP (ci := 2) (q0 := 0) rfl rfl) hl.1 dX0_isSoundAlone_34 ⟨Nat.le_of_ble_eq_true rfl, Nat.le_of_ble_eq_true rfl⟩ rfl (Nat.le_of_ble_eq_true rfl) ⟨Nat.zero_le _, Nat.zero_le _⟩ ?_
          refine lv_if_eq (tgt := 56) hx hb dX0_isSoundAlone_37 (by decide) (fun c_5 => ?_) (fun c_5 => ?_)
          · refine lv_iconst (v := (0 : Int32)) hx hb dX0_isSoundAlone_56 (by decide) ?_
            exact re_z (ty := .boolean) hx hb hr hk (by decide) dX0_isSoundAlone_57 (ei (Eq.trans (if_neg c_1) (Eq.trans (if_neg c_2) (Eq.trans (if_neg c_3) (Eq.trans (if_neg c_4) (if_pos c_5))))))
          · refine lv_aload_n hx hb dX0_isSoundAlone_40 rfl (lv_at hl 0 rfl) ?_
            refine va_get (D := gD G) (cl := vwCl) (tys := gT G) (ci := 2) (v := .ref (a 5)) (C := RX0) (T := TX0) (N := 12) hx hb hw inB_X0 hown hE.K hP 0 rfl rfl 4 (by decide) (hw _ bw98) (fun _ h9 => h9) rfl dX0_isSoundAlone_41 ?_
            refine lv_iload_n hx hb dX0_isSoundAlone_44 rfl (lv_at hl 1 rfl) ?_
            refine va_lald (tys := gT G) hx hb hE.K hP 5 1 rfl rfl h0 dX0_isSoundAlone_45 ?_
            refine rcSi (as := [.long (xN S p0.toNatClampNeg)]) (rest := []) C (c_X0_isCutWell l G (xN S p0.toNatClampNeg)) F_X0_isCutWell rfl bw217 bw218 hE vpn hl.1 dX0_isSoundAlone_46 ⟨Nat.le_of_ble_eq_true rfl, Nat.le_of_ble_eq_true rfl⟩ rfl (Nat.le_of_ble_eq_true rfl) ⟨Nat.zero_le _, Nat.zero_le _⟩ ?_
            refine lv_if_eq (tgt := 56) hx hb dX0_isSoundAlone_49 (by decide) (fun c_6 => ?_) (fun c_6 => ?_)
            · refine lv_iconst (v := (0 : Int32)) hx hb dX0_isSoundAlone_56 (by decide) ?_
              exact re_z (ty := .boolean) hx hb hr hk (by decide) dX0_isSoundAlone_57 (ei (Eq.trans (if_neg c_1) (Eq.trans (if_neg c_2) (Eq.trans (if_neg c_3) (Eq.trans (if_neg c_4) (Eq.trans (if_neg c_5) (if_pos c_6)))))))
            · refine lv_iconst (v := (1 : Int32)) hx hb dX0_isSoundAlone_52 (by decide) ?_
              refine lv_goto (tgt := 57) hx hb dX0_isSoundAlone_53 (by decide) ?_
              exact re_z (ty := .boolean) hx hb hr hk (by decide) dX0_isSoundAlone_57 (ei (Eq.trans (if_neg c_1) (Eq.trans (if_neg c_2) (Eq.trans (if_neg c_3) (Eq.trans (if_neg c_4) (Eq.trans (if_neg c_5) (if_neg c_6)))))))

set_option maxRecDepth 100000 in
set_option maxHeartbeats 4000000 in
theorem c_X0_isSoundPair (l : Launch) (G : GT) (a : Nat → Nat) (S : SX) (p0 : Int32) (p1 : Int32) (h0 : vp_in p0 6) (h1 : vp_in p1 6) : RO l G yX0_isSoundPair cX0_isSoundPair 5 (some .boolean) 3 [.ref (a 0), .int p0, .int p1] (wX G a S) (some (.int (fX0_isSoundPair S p0 p1))) := by
  refine RO.ofW (own := RX0) rfl (by decide +kernel) (Nat.le_of_ble_eq_true rfl) ?_
  intro p e s m below meth c C hr hk hE hP ls hl
  have hx := C.1
  have hb := C.2.1
  have hown := C.2.2.2.1
  have hw := C.2.2.2.2
  have hl : lv_has ls 5 [(0, .ref (a 0)), (1, .int p0), (2, .int p1)] := hl
  refine lv_aload_n hx hb dX0_isSoundPair_0 rfl (lv_at hl 0 rfl) ?_
  refine lv_iload_n hx hb dX0_isSoundPair_1 rfl (lv_at hl 1 rfl) ?_
  refine lv_iload_n hx hb dX0_isSoundPair_2 rfl (lv_at hl 2 rfl) ?_
  refine rcVi (as := [.int p0, .int p1]) (rest := []) (cl := RX0) C (c_X0_order l G a S p0 p1 h0 h1) F_X0_order rfl bw236 bw238 bw9 hE hP (va_recv hE.K hP (ci := 2) (q0 := 0) rfl rfl) hl.1 dX0_isSoundPair_3 ⟨Nat.le_of_ble_eq_true rfl, Nat.le_of_ble_eq_true rfl⟩ rfl (Nat.le_of_ble_eq_true rfl) ⟨Nat.zero_le _, Nat.zero_le _⟩ ?_
  refine lv_istore_n (lv' := [(3, .int (fX0_order S p0 p1)), (0, .ref (a 0)), (1, .int p0), (2, .int p1)]) hx hb dX0_isSoundPair_6 rfl hl (Nat.le_of_ble_eq_true rfl) rfl (fun ls hl => ?_)
  refine lv_aload_n hx hb dX0_isSoundPair_7 rfl (lv_at hl 1 rfl) ?_
  refine lv_iload_n hx hb dX0_isSoundPair_8 rfl (lv_at hl 3 rfl) ?_
  refine lv_iload_n hx hb dX0_isSoundPair_9 rfl (lv_at hl 2 rfl) ?_
  refine rcVi (as := [.int p1, .int p0]) (rest := []) (cl := RX0) C (c_X0_order l G a S p1 p0 h1 h0) F_X0_order rfl bw236 bw238 bw9 hE hP (va_recv hE.K hP (ci := 2) (q0 := 0) rfl rfl) hl.1 dX0_isSoundPair_10 ⟨Nat.le_of_ble_eq_true rfl, Nat.le_of_ble_eq_true rfl⟩ rfl (Nat.le_of_ble_eq_true rfl) ⟨Nat.zero_le _, Nat.zero_le _⟩ ?_
  refine lv_istore (lv' := [(4, .int (fX0_order S p1 p0)), (3, .int (fX0_order S p0 p1)), (0, .ref (a 0)), (1, .int p0), (2, .int p1)]) hx hb dX0_isSoundPair_13 hl (Nat.le_of_ble_eq_true rfl) rfl (fun ls hl => ?_)
  refine lv_iload_n hx hb dX0_isSoundPair_15 rfl (lv_at hl 1 rfl) ?_
  refine lv_iload hx hb dX0_isSoundPair_16 (lv_at hl 0 rfl) ?_
  refine lv_ineg hx hb dX0_isSoundPair_18 ?_
  refine lv_icmp_ne (tgt := 65) hx hb dX0_isSoundPair_19 (by decide) (fun c_1 => ?_) (fun c_1 => ?_)
  · refine lv_iconst (v := (0 : Int32)) hx hb dX0_isSoundPair_65 (by decide) ?_
    exact re_z (ty := .boolean) hx hb hr hk (by decide) dX0_isSoundPair_66 (ei (if_neg c_1))
  · refine lv_aload_n hx hb dX0_isSoundPair_22 rfl (lv_at hl 2 rfl) ?_
    refine lv_iload_n hx hb dX0_isSoundPair_23 rfl (lv_at hl 3 rfl) ?_
    refine lv_iload_n hx hb dX0_isSoundPair_24 rfl (lv_at hl 4 rfl) ?_
    refine rcVi (as := [.int p0, .int p1]) (rest := []) (cl := RX0) C (c_X0_isSameLine l G a S p0 p1 h0 h1) F_X0_isSameLine rfl bw240 bw242 bw10 hE hP (va_recv hE.K hP (ci := 2) (q0 := 0) rfl rfl) hl.1 dX0_isSoundPair_25 ⟨Nat.le_of_ble_eq_true rfl, Nat.le_of_ble_eq_true rfl⟩ rfl (Nat.le_of_ble_eq_true rfl) ⟨Nat.zero_le _, Nat.zero_le _⟩ ?_
    refine lv_iload_n hx hb dX0_isSoundPair_28 rfl (lv_at hl 1 rfl) ?_
    refine k_dia (b := (fX0_order S p0 p1) = 0) (x := (1 : Int32)) (y := (0 : Int32)) (Wg := fun z9 => W _ _ _ _ _ _ _ _ _ _ _ _ _ _ _ (F0 m 37 ls (.int z9 :: _))) ?_ (fun t9 f9 => lv_if_ne (tgt := 36) hx hb dX0_isSoundPair_29 (by decide) (fun c_x => lv_iconst (v := (0 : Int32)) hx hb dX0_isSoundPair_36 (by decide) (f9 c_x)) (fun c_x => lv_iconst (v := (1 : Int32)) hx hb dX0_isSoundPair_32 (by decide) (lv_goto (tgt := 37) hx hb dX0_isSoundPair_33 (by decide) (t9 c_x))))
    refine lv_icmp_ne (tgt := 65) hx hb dX0_isSoundPair_37 (by decide) (fun c_2 => ?_) (fun c_2 => ?_)
    · refine lv_iconst (v := (0 : Int32)) hx hb dX0_isSoundPair_65 (by decide) ?_
      exact re_z (ty := .boolean) hx hb hr hk (by decide) dX0_isSoundPair_66 (ei (Eq.trans (if_pos c_1) (if_neg c_2)))
    · refine lv_aload_n hx hb dX0_isSoundPair_40 rfl (lv_at hl 2 rfl) ?_
      refine lv_iload_n hx hb dX0_isSoundPair_41 rfl (lv_at hl 3 rfl) ?_
      refine lv_iload_n hx hb dX0_isSoundPair_42 rfl (lv_at hl 4 rfl) ?_
      refine lv_bipush (v := (7 : Int32)) hx hb dX0_isSoundPair_43 (by decide) ?_
      refine rcVl (as := [.int p0, .int p1, .int (7 : Int32)]) (rest := []) (cl := RX0) C (c_X0_gapInUnits l G a S p0 p1 (7 : Int32) h0 h1) F_X0_gapInUnits rfl bw244 bw246 bw11 hE hP (va_recv hE.K hP (ci := 2) (q0 := 0) rfl rfl) hl.1 dX0_isSoundPair_45 ⟨Nat.le_of_ble_eq_true rfl, Nat.le_of_ble_eq_true rfl⟩ rfl (Nat.le_of_ble_eq_true rfl) ⟨Nat.zero_le _, Nat.zero_le _⟩ ?_
      refine lv_aload_n hx hb dX0_isSoundPair_48 rfl (lv_at hl 2 rfl) ?_
      refine lv_iload_n hx hb dX0_isSoundPair_49 rfl (lv_at hl 4 rfl) ?_
      refine lv_iload_n hx hb dX0_isSoundPair_50 rfl (lv_at hl 3 rfl) ?_
      refine lv_bipush (v := (7 : Int32)) hx hb dX0_isSoundPair_51 (by decide) ?_
      refine rcVl (as := [.int p1, .int p0, .int (7 : Int32)]) (rest := [.long (fX0_gapInUnits S p0 p1 (7 : Int32))]) (cl := RX0) C (c_X0_gapInUnits l G a S p1 p0 (7 : Int32) h1 h0) F_X0_gapInUnits rfl bw244 bw246 bw11 hE hP (va_recv hE.K hP (ci := 2) (q0 := 0) rfl rfl) hl.1 dX0_isSoundPair_53 ⟨Nat.le_of_ble_eq_true rfl, Nat.le_of_ble_eq_true rfl⟩ rfl (Nat.le_of_ble_eq_true rfl) ⟨Nat.zero_le _, Nat.zero_le _⟩ ?_
      refine lv_lneg hx hb dX0_isSoundPair_56 ?_
      refine W.lcmp hx hb dX0_isSoundPair_57 ?_
      refine lv_if_ne (tgt := 65) hx hb dX0_isSoundPair_58 (by decide) (fun c_3 => ?_) (fun c_3 => ?_)
      · refine lv_iconst (v := (0 : Int32)) hx hb dX0_isSoundPair_65 (by decide) ?_
        exact re_z (ty := .boolean) hx hb hr hk (by decide) dX0_isSoundPair_66 (ei (Eq.trans (if_pos c_1) (Eq.trans (if_pos c_2) (if_neg c_3))))
      · refine lv_iconst (v := (1 : Int32)) hx hb dX0_isSoundPair_61 (by decide) ?_
        refine lv_goto (tgt := 66) hx hb dX0_isSoundPair_62 (by decide) ?_
        exact re_z (ty := .boolean) hx hb hr hk (by decide) dX0_isSoundPair_66 (ei (Eq.trans (if_pos c_1) (Eq.trans (if_pos c_2) (if_pos c_3))))

