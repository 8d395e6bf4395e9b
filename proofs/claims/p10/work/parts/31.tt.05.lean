set_option maxRecDepth 100000 in
set_option maxHeartbeats 4000000 in
theorem u_between (l : Launch) (G : GT) (b : Nat → Nat) (T : SM) (p0 : Int32) (p1 : Int32) (p2 : Int32) (hT : MO T) : WE l G yX2_between cX2_between 4 (some (.object "java/lang/String")) 10 6 160 [.ref (b 0), .int p0, .int p1, .int p2] (wM G b T) (fun r wd => (∃ q : Nat, r = some (.ref q)) ∧ wd = wM G b (gX2_between T p0 p1 p2)) := by
  refine WE.ofW (own := RX2) rfl (by decide +kernel) (Nat.le_of_ble_eq_true rfl) ?_
  intro p e s m below meth c A C hr hk hnm hE hP hD hA hAB hS ls hl
  have hx := C.1
  have hb := C.2.1
  have hml := C.2.2.1
  have hown := C.2.2.2.1
  have hw := C.2.2.2.2
  have hl : lv_has ls 4 [(0, .ref (b 0)), (1, .int p0), (2, .int p1), (3, .int p2)] := hl
  refine lv_aload_n hx hb dX2_between_0 rfl (lv_at hl 0 rfl) ?_
  refine lv_iload_n hx hb dX2_between_1 rfl (lv_at hl 1 rfl) ?_
  refine rcSi (as := [.int p0]) (rest := [.ref (b 0)]) C (c_X2_isNone l G p0) F_X2_isNone rfl bw1216 bw1217 (hE.S hS hAB) vpn hl.1 dX2_between_2 ⟨Nat.le_of_ble_eq_true rfl, Nat.le_of_ble_eq_true rfl⟩ rfl (Nat.le_of_ble_eq_true rfl) ⟨Nat.le_of_ble_eq_true rfl, Nat.le_of_ble_eq_true rfl⟩ ?_
  refine lv_if_ne (tgt := 15) hx hb dX2_between_5 (by decide) (fun c_1 => ?_) (fun c_1 => ?_)
  · refine lv_iconst (v := (1 : Int32)) hx hb dX2_between_15 (by decide) ?_
    refine lv_goto (tgt := 20) hx hb dX2_between_16 (by decide) ?_
    refine lv_iconst (v := (0 : Int32)) hx hb dX2_between_20 (by decide) ?_
    refine lv_bipush (v := (13 : Int32)) hx hb dX2_between_21 (by decide) ?_
    refine lv_iload_n hx hb dX2_between_23 rfl (lv_at hl 3 rfl) ?_
    refine rcSi (as := [.int (0 : Int32), .int (13 : Int32), .int p2]) (rest := [.int (1 : Int32), .ref (b 0)]) C (c_X2_isFrom l G (0 : Int32) (13 : Int32) p2) F_X2_isFrom rfl bw1208 bw1209 (hE.S hS hAB) vpn hl.1 dX2_between_24 ⟨Nat.le_of_ble_eq_true rfl, Nat.le_of_ble_eq_true rfl⟩ rfl (Nat.le_of_ble_eq_true rfl) ⟨Nat.le_of_ble_eq_true rfl, Nat.le_of_ble_eq_true rfl⟩ ?_
    refine k_dia (b := (fX2_isFrom (0 : Int32) (13 : Int32) p2) = 0) (x := (1 : Int32)) (y := (0 : Int32)) (Wg := fun z9 => W _ _ _ _ _ _ _ _ _ _ _ _ _ _ _ (F0 m 35 ls (.int z9 :: _))) ?_ (fun t9 f9 => lv_if_ne (tgt := 34) hx hb dX2_between_27 (by decide) (fun c_x => lv_iconst (v := (0 : Int32)) hx hb dX2_between_34 (by decide) (f9 c_x)) (fun c_x => lv_iconst (v := (1 : Int32)) hx hb dX2_between_30 (by decide) (lv_goto (tgt := 35) hx hb dX2_between_31 (by decide) (t9 c_x))))
    refine wcVi (as := [.int (1 : Int32), .int (if (fX2_isFrom (0 : Int32) (13 : Int32) p2) = 0 then (1 : Int32) else (0 : Int32))]) (rest := []) (cl := RX2) C (c_X2_refuses l G b T (1 : Int32) (if (fX2_isFrom (0 : Int32) (13 : Int32) p2) = 0 then (1 : Int32) else (0 : Int32))) F_X2_refuses rfl bw1219 bw1221 bw33 (hE.S hS hAB) hP hD hS hA hAB (rv4 hE.K hP (q0 := 0) rfl) hl.1 dX2_between_35 ⟨Nat.le_of_ble_eq_true rfl, Nat.le_of_ble_eq_true rfl⟩ rfl (Nat.le_of_ble_eq_true rfl) ⟨Nat.le_of_ble_eq_true rfl, Nat.le_of_ble_eq_true rfl⟩ (fun H locs hP hD hS => ?_)
    have hP : va_P (gD G) vwCl (wM G b ((fth (1 : Int32) (if (fX2_isFrom (0 : Int32) (13 : Int32) p2) = 0 then (1 : Int32) else (0 : Int32))), (my T), (mm T), (md T), (mt T), (T.2.2.2.2.2))) H := hP
    have hD : va_D A (wM G b ((fth (1 : Int32) (if (fX2_isFrom (0 : Int32) (13 : Int32) p2) = 0 then (1 : Int32) else (0 : Int32))), (my T), (mm T), (md T), (mt T), (T.2.2.2.2.2))) := hD
    refine lv_if_eq (tgt := 46) hx hb dX2_between_38 (by decide) (fun c_x => absurd c_x (frf_l1 (if (fX2_isFrom (0 : Int32) (13 : Int32) p2) = 0 then (1 : Int32) else (0 : Int32)))) (fun _ => ?_)
    refine va_ldcS hx hb hown hE.1.2.2.2.2.1 dX2_between_41 ?_
    refine lv_goto (tgt := 53) hx hb dX2_between_43 (by decide) ?_
    exact weA hx hb hr (Or.inl ⟨_, rfl⟩) hk ⟨⟨_, rfl⟩, (congrArg (wM G b) (show gX2_between T p0 p1 p2 = ((fth (1 : Int32) (if (fX2_isFrom (0 : Int32) (13 : Int32) p2) = 0 then (1 : Int32) else (0 : Int32))), (my T), (mm T), (md T), (mt T), (T.2.2.2.2.2)) from (if_neg c_1)).symm)⟩ hP hD hS (Nat.le_of_ble_eq_true rfl) (Nat.le_of_ble_eq_true rfl) dX2_between_53
  · refine lv_iload_n hx hb dX2_between_8 rfl (lv_at hl 2 rfl) ?_
    refine rcSi (as := [.int p1]) (rest := [.ref (b 0)]) C (c_X2_isNone l G p1) F_X2_isNone rfl bw1216 bw1217 (hE.S hS hAB) vpn hl.1 dX2_between_9 ⟨Nat.le_of_ble_eq_true rfl, Nat.le_of_ble_eq_true rfl⟩ rfl (Nat.le_of_ble_eq_true rfl) ⟨Nat.le_of_ble_eq_true rfl, Nat.le_of_ble_eq_true rfl⟩ ?_
    refine k_dia (b := (fX2_isNone p1) = 0) (x := (0 : Int32)) (y := (1 : Int32)) (Wg := fun z9 => W _ _ _ _ _ _ _ _ _ _ _ _ _ _ _ (F0 m 20 ls (.int z9 :: _))) ?_ (fun t9 f9 => lv_if_eq (tgt := 19) hx hb dX2_between_12 (by decide) (fun c_x => lv_iconst (v := (0 : Int32)) hx hb dX2_between_19 (by decide) (t9 c_x)) (fun c_x => lv_iconst (v := (1 : Int32)) hx hb dX2_between_15 (by decide) (lv_goto (tgt := 20) hx hb dX2_between_16 (by decide) (f9 c_x))))
    refine lv_iconst (v := (0 : Int32)) hx hb dX2_between_20 (by decide) ?_
    refine lv_bipush (v := (13 : Int32)) hx hb dX2_between_21 (by decide) ?_
    refine lv_iload_n hx hb dX2_between_23 rfl (lv_at hl 3 rfl) ?_
    refine rcSi (as := [.int (0 : Int32), .int (13 : Int32), .int p2]) (rest := [.int (if (fX2_isNone p1) = 0 then (0 : Int32) else (1 : Int32)), .ref (b 0)]) C (c_X2_isFrom l G (0 : Int32) (13 : Int32) p2) F_X2_isFrom rfl bw1208 bw1209 (hE.S hS hAB) vpn hl.1 dX2_between_24 ⟨Nat.le_of_ble_eq_true rfl, Nat.le_of_ble_eq_true rfl⟩ rfl (Nat.le_of_ble_eq_true rfl) ⟨Nat.le_of_ble_eq_true rfl, Nat.le_of_ble_eq_true rfl⟩ ?_
    refine k_dia (b := (fX2_isFrom (0 : Int32) (13 : Int32) p2) = 0) (x := (1 : Int32)) (y := (0 : Int32)) (Wg := fun z9 => W _ _ _ _ _ _ _ _ _ _ _ _ _ _ _ (F0 m 35 ls (.int z9 :: _))) ?_ (fun t9 f9 => lv_if_ne (tgt := 34) hx hb dX2_between_27 (by decide) (fun c_x => lv_iconst (v := (0 : Int32)) hx hb dX2_between_34 (by decide) (f9 c_x)) (fun c_x => lv_iconst (v := (1 : Int32)) hx hb dX2_between_30 (by decide) (lv_goto (tgt := 35) hx hb dX2_between_31 (by decide) (t9 c_x))))
    refine wcVi (as := [.int (if (fX2_isNone p1) = 0 then (0 : Int32) else (1 : Int32)), .int (if (fX2_isFrom (0 : Int32) (13 : Int32) p2) = 0 then (1 : Int32) else (0 : Int32))]) (rest := []) (cl := RX2) C (c_X2_refuses l G b T (if (fX2_isNone p1) = 0 then (0 : Int32) else (1 : Int32)) (if (fX2_isFrom (0 : Int32) (13 : Int32) p2) = 0 then (1 : Int32) else (0 : Int32))) F_X2_refuses rfl bw1219 bw1221 bw33 (hE.S hS hAB) hP hD hS hA hAB (rv4 hE.K hP (q0 := 0) rfl) hl.1 dX2_between_35 ⟨Nat.le_of_ble_eq_true rfl, Nat.le_of_ble_eq_true rfl⟩ rfl (Nat.le_of_ble_eq_true rfl) ⟨Nat.le_of_ble_eq_true rfl, Nat.le_of_ble_eq_true rfl⟩ (fun H locs hP hD hS => ?_)
    have hP : va_P (gD G) vwCl (wM G b ((fth (if (fX2_isNone p1) = 0 then (0 : Int32) else (1 : Int32)) (if (fX2_isFrom (0 : Int32) (13 : Int32) p2) = 0 then (1 : Int32) else (0 : Int32))), (my T), (mm T), (md T), (mt T), (T.2.2.2.2.2))) H := hP
    have hD : va_D A (wM G b ((fth (if (fX2_isNone p1) = 0 then (0 : Int32) else (1 : Int32)) (if (fX2_isFrom (0 : Int32) (13 : Int32) p2) = 0 then (1 : Int32) else (0 : Int32))), (my T), (mm T), (md T), (mt T), (T.2.2.2.2.2))) := hD
    refine lv_if_eq (tgt := 46) hx hb dX2_between_38 (by decide) (fun c_2 => ?_) (fun c_2 => ?_)
    · have c_2 := rf_p c_2
      refine lv_aload_n hx hb dX2_between_46 rfl (lv_at hl 0 rfl) ?_
      refine lv_iload_n hx hb dX2_between_47 rfl (lv_at hl 1 rfl) ?_
      refine lv_iload_n hx hb dX2_between_48 rfl (lv_at hl 2 rfl) ?_
      refine lv_iload_n hx hb dX2_between_49 rfl (lv_at hl 3 rfl) ?_
      refine weVf (wr := []) (wd := (wM G b ((fth (if (fX2_isNone p1) = 0 then (0 : Int32) else (1 : Int32)) (if (fX2_isFrom (0 : Int32) (13 : Int32) p2) = 0 then (1 : Int32) else (0 : Int32))), (my T), (mm T), (md T), (mt T), (T.2.2.2.2.2)))) (as := [.int p0, .int p1, .int p2]) (rest := []) (cl := RX2) C (u_betweenNow l G b ((fth (if (fX2_isNone p1) = 0 then (0 : Int32) else (1 : Int32)) (if (fX2_isFrom (0 : Int32) (13 : Int32) p2) = 0 then (1 : Int32) else (0 : Int32))), (my T), (mm T), (md T), (mt T), (T.2.2.2.2.2)) p0 p1 p2 (none_in c_1) (none_in (dia0 (frf_a c_2))) (MO.same hT rfl)) F_X2_betweenNow rfl bw1577 bw1579 (hw _ bw49) (hE.S hS hAB) hP hD hS hA hAB (rv4 hE.K hP (q0 := 0) rfl) hl.1 dX2_between_50 ⟨Nat.le_of_ble_eq_true rfl, Nat.le_of_ble_eq_true rfl⟩ rfl (Nat.le_of_ble_eq_true rfl) ⟨Nat.le_of_ble_eq_true rfl, Nat.le_of_ble_eq_true rfl⟩ (fun r9 wd9 H locs hp9 hP hD hS => ?_)
      obtain ⟨⟨q9_50, rfl⟩, rfl⟩ := hp9
      have hP : va_P (gD G) vwCl (wM G b (gX2_betweenNow ((fth (if (fX2_isNone p1) = 0 then (0 : Int32) else (1 : Int32)) (if (fX2_isFrom (0 : Int32) (13 : Int32) p2) = 0 then (1 : Int32) else (0 : Int32))), (my T), (mm T), (md T), (mt T), (T.2.2.2.2.2)) p0 p1 p2)) H := hP
      have hD : va_D A (wM G b (gX2_betweenNow ((fth (if (fX2_isNone p1) = 0 then (0 : Int32) else (1 : Int32)) (if (fX2_isFrom (0 : Int32) (13 : Int32) p2) = 0 then (1 : Int32) else (0 : Int32))), (my T), (mm T), (md T), (mt T), (T.2.2.2.2.2)) p0 p1 p2)) := hD
      refine W.eq (g2 := F0 m 53 ls [.ref q9_50]) rfl ?_
      exact weA hx hb hr (Or.inl ⟨_, rfl⟩) hk ⟨⟨_, rfl⟩, (congrArg (wM G b) (show gX2_between T p0 p1 p2 = (gX2_betweenNow ((fth (if (fX2_isNone p1) = 0 then (0 : Int32) else (1 : Int32)) (if (fX2_isFrom (0 : Int32) (13 : Int32) p2) = 0 then (1 : Int32) else (0 : Int32))), (my T), (mm T), (md T), (mt T), (T.2.2.2.2.2)) p0 p1 p2) from (Eq.trans (if_pos c_1) (if_pos c_2))).symm)⟩ hP hD hS (Nat.le_of_ble_eq_true rfl) (Nat.le_of_ble_eq_true rfl) dX2_between_53
    · have c_2 := rf_n c_2
      refine va_ldcS hx hb hown hE.1.2.2.2.2.1 dX2_between_41 ?_
      refine lv_goto (tgt := 53) hx hb dX2_between_43 (by decide) ?_
      exact weA hx hb hr (Or.inl ⟨_, rfl⟩) hk ⟨⟨_, rfl⟩, (congrArg (wM G b) (show gX2_between T p0 p1 p2 = ((fth (if (fX2_isNone p1) = 0 then (0 : Int32) else (1 : Int32)) (if (fX2_isFrom (0 : Int32) (13 : Int32) p2) = 0 then (1 : Int32) else (0 : Int32))), (my T), (mm T), (md T), (mt T), (T.2.2.2.2.2)) from (Eq.trans (if_pos c_1) (if_neg c_2))).symm)⟩ hP hD hS (Nat.le_of_ble_eq_true rfl) (Nat.le_of_ble_eq_true rfl) dX2_between_53

