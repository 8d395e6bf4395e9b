set_option maxRecDepth 100000 in
set_option maxHeartbeats 4000000 in
theorem c_X2_of (l : Launch) (G : GT) (b : Nat → Nat) (T : SM) (p0 : Int32) (p1 : Int32) (p2 : Int32) (p3 : Int32) (p4 : Int32) (hT : MO T) : WR l G yX2_of cX2_of 6 (some .int) 12 0 0 [.ref (b 0), .int p0, .int p1, .int p2, .int p3, .int p4] (wM G b T) (wM G b (gX2_of T p0 p1 p2 p3 p4).2) (some (.int (gX2_of T p0 p1 p2 p3 p4).1)) := by
  refine WR.ofW (own := RX2) rfl (by decide +kernel) (Nat.le_of_ble_eq_true rfl) ?_
  intro p e s m below meth c A C hr hk hnm hE hP hD hA hAB hS ls hl
  have hx := C.1
  have hb := C.2.1
  have hown := C.2.2.2.1
  have hw := C.2.2.2.2
  have hl : lv_has ls 6 [(0, .ref (b 0)), (1, .int p0), (2, .int p1), (3, .int p2), (4, .int p3), (5, .int p4)] := hl
  refine lv_aload_n hx hb dX2_of_0 rfl (lv_at hl 0 rfl) ?_
  refine lv_iload_n hx hb dX2_of_1 rfl (lv_at hl 1 rfl) ?_
  refine rcSi (as := [.int p0]) (rest := [.ref (b 0)]) C (c_X2_isNone l G p0) F_X2_isNone rfl bw1216 bw1217 (hE.S hS hAB) vpn hl.1 dX2_of_2 ⟨Nat.le_of_ble_eq_true rfl, Nat.le_of_ble_eq_true rfl⟩ rfl (Nat.le_of_ble_eq_true rfl) ⟨Nat.le_of_ble_eq_true rfl, Nat.le_of_ble_eq_true rfl⟩ ?_
  refine lv_sipush (v := (-9999 : Int32)) hx hb dX2_of_5 (by decide) ?_
  refine lv_sipush (v := (9999 : Int32)) hx hb dX2_of_8 (by decide) ?_
  refine lv_iload_n hx hb dX2_of_11 rfl (lv_at hl 2 rfl) ?_
  refine rcSi (as := [.int (-9999 : Int32), .int (9999 : Int32), .int p1]) (rest := [.int (fX2_isNone p0), .ref (b 0)]) C (c_X2_isFrom l G (-9999 : Int32) (9999 : Int32) p1) F_X2_isFrom rfl bw1208 bw1209 (hE.S hS hAB) vpn hl.1 dX2_of_12 ⟨Nat.le_of_ble_eq_true rfl, Nat.le_of_ble_eq_true rfl⟩ rfl (Nat.le_of_ble_eq_true rfl) ⟨Nat.le_of_ble_eq_true rfl, Nat.le_of_ble_eq_true rfl⟩ ?_
  refine lv_if_eq (tgt := 50) hx hb dX2_of_15 (by decide) (fun c_1 => ?_) (fun c_1 => ?_)
  · refine lv_iconst (v := (1 : Int32)) hx hb dX2_of_50 (by decide) ?_
    refine lv_goto (tgt := 55) hx hb dX2_of_51 (by decide) ?_
    refine wcVi (as := [.int (fX2_isNone p0), .int (1 : Int32)]) (rest := []) (cl := RX2) C (c_X2_refuses l G b T (fX2_isNone p0) (1 : Int32)) F_X2_refuses rfl bw1219 bw1221 bw33 (hE.S hS hAB) hP hD hS hA hAB (va_recv hE.K hP (ci := 4) (q0 := 0) rfl rfl) hl.1 dX2_of_55 ⟨Nat.le_of_ble_eq_true rfl, Nat.le_of_ble_eq_true rfl⟩ rfl (Nat.le_of_ble_eq_true rfl) ⟨Nat.le_of_ble_eq_true rfl, Nat.le_of_ble_eq_true rfl⟩ (fun H locs hP hD hS => ?_)
    have hP : va_P (gD G) vwCl (wM G b ((fth (fX2_isNone p0) (1 : Int32)), (my T), (mm T), (md T), (mt T), (T.2.2.2.2.2))) H := hP
    have hD : va_D A (wM G b ((fth (fX2_isNone p0) (1 : Int32)), (my T), (mm T), (md T), (mt T), (T.2.2.2.2.2))) := hD
    refine lv_if_eq (tgt := 63) hx hb dX2_of_58 (by decide) (fun c_x => absurd c_x (frf_1 (fX2_isNone p0))) (fun _ => ?_)
    refine lv_iconst (v := (0 : Int32)) hx hb dX2_of_61 (by decide) ?_
    exact we_i (wf := wM G b) hx hb hr hk hP hD hS (Nat.le_of_ble_eq_true rfl) (Nat.le_of_ble_eq_true rfl) dX2_of_62 (if_pos c_1)
  · refine lv_iconst (v := (1 : Int32)) hx hb dX2_of_18 (by decide) ?_
    refine lv_bipush (v := (12 : Int32)) hx hb dX2_of_19 (by decide) ?_
    refine lv_iload_n hx hb dX2_of_21 rfl (lv_at hl 3 rfl) ?_
    refine rcSi (as := [.int (1 : Int32), .int (12 : Int32), .int p2]) (rest := [.int (fX2_isNone p0), .ref (b 0)]) C (c_X2_isFrom l G (1 : Int32) (12 : Int32) p2) F_X2_isFrom rfl bw1208 bw1209 (hE.S hS hAB) vpn hl.1 dX2_of_22 ⟨Nat.le_of_ble_eq_true rfl, Nat.le_of_ble_eq_true rfl⟩ rfl (Nat.le_of_ble_eq_true rfl) ⟨Nat.le_of_ble_eq_true rfl, Nat.le_of_ble_eq_true rfl⟩ ?_
    refine lv_if_eq (tgt := 50) hx hb dX2_of_25 (by decide) (fun c_2 => ?_) (fun c_2 => ?_)
    · refine lv_iconst (v := (1 : Int32)) hx hb dX2_of_50 (by decide) ?_
      refine lv_goto (tgt := 55) hx hb dX2_of_51 (by decide) ?_
      refine wcVi (as := [.int (fX2_isNone p0), .int (1 : Int32)]) (rest := []) (cl := RX2) C (c_X2_refuses l G b T (fX2_isNone p0) (1 : Int32)) F_X2_refuses rfl bw1219 bw1221 bw33 (hE.S hS hAB) hP hD hS hA hAB (va_recv hE.K hP (ci := 4) (q0 := 0) rfl rfl) hl.1 dX2_of_55 ⟨Nat.le_of_ble_eq_true rfl, Nat.le_of_ble_eq_true rfl⟩ rfl (Nat.le_of_ble_eq_true rfl) ⟨Nat.le_of_ble_eq_true rfl, Nat.le_of_ble_eq_true rfl⟩ (fun H locs hP hD hS => ?_)
      have hP : va_P (gD G) vwCl (wM G b ((fth (fX2_isNone p0) (1 : Int32)), (my T), (mm T), (md T), (mt T), (T.2.2.2.2.2))) H := hP
      have hD : va_D A (wM G b ((fth (fX2_isNone p0) (1 : Int32)), (my T), (mm T), (md T), (mt T), (T.2.2.2.2.2))) := hD
      refine lv_if_eq (tgt := 63) hx hb dX2_of_58 (by decide) (fun c_x => absurd c_x (frf_1 (fX2_isNone p0))) (fun _ => ?_)
      refine lv_iconst (v := (0 : Int32)) hx hb dX2_of_61 (by decide) ?_
      exact we_i (wf := wM G b) hx hb hr hk hP hD hS (Nat.le_of_ble_eq_true rfl) (Nat.le_of_ble_eq_true rfl) dX2_of_62 (Eq.trans (if_neg c_1) (if_pos c_2))
    · refine lv_iconst (v := (1 : Int32)) hx hb dX2_of_28 (by decide) ?_
      refine lv_bipush (v := (31 : Int32)) hx hb dX2_of_29 (by decide) ?_
      refine lv_iload hx hb dX2_of_31 (lv_at hl 4 rfl) ?_
      refine rcSi (as := [.int (1 : Int32), .int (31 : Int32), .int p3]) (rest := [.int (fX2_isNone p0), .ref (b 0)]) C (c_X2_isFrom l G (1 : Int32) (31 : Int32) p3) F_X2_isFrom rfl bw1208 bw1209 (hE.S hS hAB) vpn hl.1 dX2_of_33 ⟨Nat.le_of_ble_eq_true rfl, Nat.le_of_ble_eq_true rfl⟩ rfl (Nat.le_of_ble_eq_true rfl) ⟨Nat.le_of_ble_eq_true rfl, Nat.le_of_ble_eq_true rfl⟩ ?_
      refine lv_if_eq (tgt := 50) hx hb dX2_of_36 (by decide) (fun c_3 => ?_) (fun c_3 => ?_)
      · refine lv_iconst (v := (1 : Int32)) hx hb dX2_of_50 (by decide) ?_
        refine lv_goto (tgt := 55) hx hb dX2_of_51 (by decide) ?_
        refine wcVi (as := [.int (fX2_isNone p0), .int (1 : Int32)]) (rest := []) (cl := RX2) C (c_X2_refuses l G b T (fX2_isNone p0) (1 : Int32)) F_X2_refuses rfl bw1219 bw1221 bw33 (hE.S hS hAB) hP hD hS hA hAB (va_recv hE.K hP (ci := 4) (q0 := 0) rfl rfl) hl.1 dX2_of_55 ⟨Nat.le_of_ble_eq_true rfl, Nat.le_of_ble_eq_true rfl⟩ rfl (Nat.le_of_ble_eq_true rfl) ⟨Nat.le_of_ble_eq_true rfl, Nat.le_of_ble_eq_true rfl⟩ (fun H locs hP hD hS => ?_)
        have hP : va_P (gD G) vwCl (wM G b ((fth (fX2_isNone p0) (1 : Int32)), (my T), (mm T), (md T), (mt T), (T.2.2.2.2.2))) H := hP
        have hD : va_D A (wM G b ((fth (fX2_isNone p0) (1 : Int32)), (my T), (mm T), (md T), (mt T), (T.2.2.2.2.2))) := hD
        refine lv_if_eq (tgt := 63) hx hb dX2_of_58 (by decide) (fun c_x => absurd c_x (frf_1 (fX2_isNone p0))) (fun _ => ?_)
        refine lv_iconst (v := (0 : Int32)) hx hb dX2_of_61 (by decide) ?_
        exact we_i (wf := wM G b) hx hb hr hk hP hD hS (Nat.le_of_ble_eq_true rfl) (Nat.le_of_ble_eq_true rfl) dX2_of_62 (Eq.trans (if_neg c_1) (Eq.trans (if_neg c_2) (if_pos c_3)))
      · refine lv_iconst (v := (0 : Int32)) hx hb dX2_of_39 (by decide) ?_
        refine lv_bipush (v := (6 : Int32)) hx hb dX2_of_40 (by decide) ?_
        refine lv_iload hx hb dX2_of_42 (lv_at hl 5 rfl) ?_
        refine rcSi (as := [.int (0 : Int32), .int (6 : Int32), .int p4]) (rest := [.int (fX2_isNone p0), .ref (b 0)]) C (c_X2_isFrom l G (0 : Int32) (6 : Int32) p4) F_X2_isFrom rfl bw1208 bw1209 (hE.S hS hAB) vpn hl.1 dX2_of_44 ⟨Nat.le_of_ble_eq_true rfl, Nat.le_of_ble_eq_true rfl⟩ rfl (Nat.le_of_ble_eq_true rfl) ⟨Nat.le_of_ble_eq_true rfl, Nat.le_of_ble_eq_true rfl⟩ ?_
        refine k_dia (b := (fX2_isFrom (0 : Int32) (6 : Int32) p4) = 0) (x := (1 : Int32)) (y := (0 : Int32)) (Wg := fun z9 => W _ _ _ _ _ _ _ _ _ _ _ _ _ _ _ (F0 m 55 ls (.int z9 :: _))) ?_ (fun t9 f9 => lv_if_ne (tgt := 54) hx hb dX2_of_47 (by decide) (fun c_x => lv_iconst (v := (0 : Int32)) hx hb dX2_of_54 (by decide) (f9 c_x)) (fun c_x => lv_iconst (v := (1 : Int32)) hx hb dX2_of_50 (by decide) (lv_goto (tgt := 55) hx hb dX2_of_51 (by decide) (t9 c_x))))
        refine wcVi (as := [.int (fX2_isNone p0), .int (if (fX2_isFrom (0 : Int32) (6 : Int32) p4) = 0 then (1 : Int32) else (0 : Int32))]) (rest := []) (cl := RX2) C (c_X2_refuses l G b T (fX2_isNone p0) (if (fX2_isFrom (0 : Int32) (6 : Int32) p4) = 0 then (1 : Int32) else (0 : Int32))) F_X2_refuses rfl bw1219 bw1221 bw33 (hE.S hS hAB) hP hD hS hA hAB (va_recv hE.K hP (ci := 4) (q0 := 0) rfl rfl) hl.1 dX2_of_55 ⟨Nat.le_of_ble_eq_true rfl, Nat.le_of_ble_eq_true rfl⟩ rfl (Nat.le_of_ble_eq_true rfl) ⟨Nat.le_of_ble_eq_true rfl, Nat.le_of_ble_eq_true rfl⟩ (fun H locs hP hD hS => ?_)
        have hP : va_P (gD G) vwCl (wM G b ((fth (fX2_isNone p0) (if (fX2_isFrom (0 : Int32) (6 : Int32) p4) = 0 then (1 : Int32) else (0 : Int32))), (my T), (mm T), (md T), (mt T), (T.2.2.2.2.2))) H := hP
        have hD : va_D A (wM G b ((fth (fX2_isNone p0) (if (fX2_isFrom (0 : Int32) (6 : Int32) p4) = 0 then (1 : Int32) else (0 : Int32))), (my T), (mm T), (md T), (mt T), (T.2.2.2.2.2))) := hD
        refine lv_if_eq (tgt := 63) hx hb dX2_of_58 (by decide) (fun c_4 => ?_) (fun c_4 => ?_)
        · have c_4 := rf_p c_4
          refine lv_iload hx hb dX2_of_63 (lv_at hl 4 rfl) ?_
          refine lv_iload_n hx hb dX2_of_65 rfl (lv_at hl 2 rfl) ?_
          refine lv_iload_n hx hb dX2_of_66 rfl (lv_at hl 3 rfl) ?_
          refine rcSi (as := [.int p1, .int p2]) (rest := [.int p3]) C (c_X2_daysOf l G p1 p2) F_X2_daysOf rfl bw1223 bw1224 (hE.S hS hAB) vpn hl.1 dX2_of_67 ⟨Nat.le_of_ble_eq_true rfl, Nat.le_of_ble_eq_true rfl⟩ rfl (Nat.le_of_ble_eq_true rfl) ⟨Nat.le_of_ble_eq_true rfl, Nat.le_of_ble_eq_true rfl⟩ ?_
          refine lv_icmp_le (tgt := 78) hx hb dX2_of_70 (by decide) (fun c_5 => ?_) (fun c_5 => ?_)
          · refine lv_aload_n hx hb dX2_of_78 rfl (lv_at hl 0 rfl) ?_
            refine lv_iload_n hx hb dX2_of_79 rfl (lv_at hl 1 rfl) ?_
            refine lv_iload_n hx hb dX2_of_80 rfl (lv_at hl 2 rfl) ?_
            refine lv_iload_n hx hb dX2_of_81 rfl (lv_at hl 3 rfl) ?_
            refine lv_iload hx hb dX2_of_82 (lv_at hl 4 rfl) ?_
            refine lv_aload_n hx hb dX2_of_84 rfl (lv_at hl 0 rfl) ?_
            refine lv_iload hx hb dX2_of_85 (lv_at hl 5 rfl) ?_
            refine lv_bipush (v := (6 : Int32)) hx hb dX2_of_87 (by decide) ?_
            refine lv_icmp_ne (tgt := 96) hx hb dX2_of_89 (by decide) (fun c_6 => ?_) (fun c_6 => ?_)
            · refine lv_iload hx hb dX2_of_96 (lv_at hl 5 rfl) ?_
              refine lv_iconst (v := (3 : Int32)) hx hb dX2_of_98 (by decide) ?_
              refine lv_irem hx hb dX2_of_99 (by decide) ?_
              refine rcVl (as := [.int (p4 - p4 / (3 : Int32) * (3 : Int32))]) (rest := [.int p3, .int p2, .int p1, .int p0, .ref (b 0)]) (cl := RX2) C (c_X2_handTime l G b ((fth (fX2_isNone p0) (if (fX2_isFrom (0 : Int32) (6 : Int32) p4) = 0 then (1 : Int32) else (0 : Int32))), (my T), (mm T), (md T), (mt T), (T.2.2.2.2.2)) (p4 - p4 / (3 : Int32) * (3 : Int32))) F_X2_handTime rfl bw1233 bw1235 bw35 (hE.S hS hAB) hP (va_recv hE.K hP (ci := 4) (q0 := 0) rfl rfl) hl.1 dX2_of_100 ⟨Nat.le_of_ble_eq_true rfl, Nat.le_of_ble_eq_true rfl⟩ rfl (Nat.le_of_ble_eq_true rfl) ⟨Nat.le_of_ble_eq_true rfl, Nat.le_of_ble_eq_true rfl⟩ ?_
              refine wcVi (as := [.int p0, .int p1, .int p2, .int p3, .long (fX2_handTime ((fth (fX2_isNone p0) (if (fX2_isFrom (0 : Int32) (6 : Int32) p4) = 0 then (1 : Int32) else (0 : Int32))), (my T), (mm T), (md T), (mt T), (T.2.2.2.2.2)) (p4 - p4 / (3 : Int32) * (3 : Int32)))]) (rest := []) (cl := RX2) C (c_X2_become l G b ((fth (fX2_isNone p0) (if (fX2_isFrom (0 : Int32) (6 : Int32) p4) = 0 then (1 : Int32) else (0 : Int32))), (my T), (mm T), (md T), (mt T), (T.2.2.2.2.2)) p0 p1 p2 p3 (fX2_handTime ((fth (fX2_isNone p0) (if (fX2_isFrom (0 : Int32) (6 : Int32) p4) = 0 then (1 : Int32) else (0 : Int32))), (my T), (mm T), (md T), (mt T), (T.2.2.2.2.2)) (p4 - p4 / (3 : Int32) * (3 : Int32))) (none_in (frf_a c_4)) (MO.same hT rfl) (from_le c_2)) F_X2_become rfl bw1239 bw1241 bw36 (hE.S hS hAB) hP hD hS hA hAB (va_recv hE.K hP (ci := 4) (q0 := 0) rfl rfl) hl.1 dX2_of_103 ⟨Nat.le_of_ble_eq_true rfl, Nat.le_of_ble_eq_true rfl⟩ rfl (Nat.le_of_ble_eq_true rfl) ⟨Nat.le_of_ble_eq_true rfl, Nat.le_of_ble_eq_true rfl⟩ (fun H locs hP hD hS => ?_)
              exact we_i (wf := wM G b) hx hb hr hk hP hD hS (Nat.le_of_ble_eq_true rfl) (Nat.le_of_ble_eq_true rfl) dX2_of_106 (Eq.trans (if_neg c_1) (Eq.trans (if_neg c_2) (Eq.trans (if_neg c_3) (Eq.trans (if_pos c_4) (Eq.trans (if_pos c_5) (if_neg c_6))))))
            · refine lv_iconst (v := (2 : Int32)) hx hb dX2_of_92 (by decide) ?_
              refine lv_goto (tgt := 100) hx hb dX2_of_93 (by decide) ?_
              refine rcVl (as := [.int (2 : Int32)]) (rest := [.int p3, .int p2, .int p1, .int p0, .ref (b 0)]) (cl := RX2) C (c_X2_handTime l G b ((fth (fX2_isNone p0) (if (fX2_isFrom (0 : Int32) (6 : Int32) p4) = 0 then (1 : Int32) else (0 : Int32))), (my T), (mm T), (md T), (mt T), (T.2.2.2.2.2)) (2 : Int32)) F_X2_handTime rfl bw1233 bw1235 bw35 (hE.S hS hAB) hP (va_recv hE.K hP (ci := 4) (q0 := 0) rfl rfl) hl.1 dX2_of_100 ⟨Nat.le_of_ble_eq_true rfl, Nat.le_of_ble_eq_true rfl⟩ rfl (Nat.le_of_ble_eq_true rfl) ⟨Nat.le_of_ble_eq_true rfl, Nat.le_of_ble_eq_true rfl⟩ ?_
              refine wcVi (as := [.int p0, .int p1, .int p2, .int p3, .long (fX2_handTime ((fth (fX2_isNone p0) (if (fX2_isFrom (0 : Int32) (6 : Int32) p4) = 0 then (1 : Int32) else (0 : Int32))), (my T), (mm T), (md T), (mt T), (T.2.2.2.2.2)) (2 : Int32))]) (rest := []) (cl := RX2) C (c_X2_become l G b ((fth (fX2_isNone p0) (if (fX2_isFrom (0 : Int32) (6 : Int32) p4) = 0 then (1 : Int32) else (0 : Int32))), (my T), (mm T), (md T), (mt T), (T.2.2.2.2.2)) p0 p1 p2 p3 (fX2_handTime ((fth (fX2_isNone p0) (if (fX2_isFrom (0 : Int32) (6 : Int32) p4) = 0 then (1 : Int32) else (0 : Int32))), (my T), (mm T), (md T), (mt T), (T.2.2.2.2.2)) (2 : Int32)) (none_in (frf_a c_4)) (MO.same hT rfl) (from_le c_2)) F_X2_become rfl bw1239 bw1241 bw36 (hE.S hS hAB) hP hD hS hA hAB (va_recv hE.K hP (ci := 4) (q0 := 0) rfl rfl) hl.1 dX2_of_103 ⟨Nat.le_of_ble_eq_true rfl, Nat.le_of_ble_eq_true rfl⟩ rfl (Nat.le_of_ble_eq_true rfl) ⟨Nat.le_of_ble_eq_true rfl, Nat.le_of_ble_eq_true rfl⟩ (fun H locs hP hD hS => ?_)
              exact we_i (wf := wM G b) hx hb hr hk hP hD hS (Nat.le_of_ble_eq_true rfl) (Nat.le_of_ble_eq_true rfl) dX2_of_106 (Eq.trans (if_neg c_1) (Eq.trans (if_neg c_2) (Eq.trans (if_neg c_3) (Eq.trans (if_pos c_4) (Eq.trans (if_pos c_5) (if_pos c_6))))))
          · refine lv_aload_n hx hb dX2_of_73 rfl (lv_at hl 0 rfl) ?_
            refine wcVi (as := []) (rest := []) (cl := RX2) C (c_X2_refuse l G b ((fth (fX2_isNone p0) (if (fX2_isFrom (0 : Int32) (6 : Int32) p4) = 0 then (1 : Int32) else (0 : Int32))), (my T), (mm T), (md T), (mt T), (T.2.2.2.2.2))) F_X2_refuse rfl bw1229 bw1231 bw34 (hE.S hS hAB) hP hD hS hA hAB (va_recv hE.K hP (ci := 4) (q0 := 0) rfl rfl) hl.1 dX2_of_74 ⟨Nat.le_of_ble_eq_true rfl, Nat.le_of_ble_eq_true rfl⟩ rfl (Nat.le_of_ble_eq_true rfl) ⟨Nat.le_of_ble_eq_true rfl, Nat.le_of_ble_eq_true rfl⟩ (fun H locs hP hD hS => ?_)
            exact we_i (wf := wM G b) hx hb hr hk hP hD hS (Nat.le_of_ble_eq_true rfl) (Nat.le_of_ble_eq_true rfl) dX2_of_77 (Eq.trans (if_neg c_1) (Eq.trans (if_neg c_2) (Eq.trans (if_neg c_3) (Eq.trans (if_pos c_4) (if_neg c_5)))))
        · have c_4 := rf_n c_4
          refine lv_iconst (v := (0 : Int32)) hx hb dX2_of_61 (by decide) ?_
          exact we_i (wf := wM G b) hx hb hr hk hP hD hS (Nat.le_of_ble_eq_true rfl) (Nat.le_of_ble_eq_true rfl) dX2_of_62 (Eq.trans (if_neg c_1) (Eq.trans (if_neg c_2) (Eq.trans (if_neg c_3) (if_neg c_4))))

