set_option maxRecDepth 100000 in
set_option maxHeartbeats 4000000 in
theorem u_nanoOfDay (l : Launch) (G : GT) (b : Nat → Nat) (T : SM) (p0 : Int32) (hT : MO T) : WE l G yX2_nanoOfDay cX2_nanoOfDay 2 (some (.object "java/lang/String")) 9 6 160 [.ref (b 0), .int p0] (wM G b T) (fun r wd => (∃ q : Nat, r = some (.ref q)) ∧ wd = wM G b (gX2_nanoOfDay T p0)) := by
  refine WE.ofW (own := RX2) rfl (by decide +kernel) (Nat.le_of_ble_eq_true rfl) ?_
  intro p e s m below meth c A C hr hk hnm hE hP hD hA hAB hS ls hl
  have hx := C.1
  have hb := C.2.1
  have hml := C.2.2.1
  have hown := C.2.2.2.1
  have hw := C.2.2.2.2
  have hl : lv_has ls 2 [(0, .ref (b 0)), (1, .int p0)] := hl
  refine lv_aload_n hx hb dX2_nanoOfDay_0 rfl (lv_at hl 0 rfl) ?_
  refine lv_iload_n hx hb dX2_nanoOfDay_1 rfl (lv_at hl 1 rfl) ?_
  refine rcSi (as := [.int p0]) (rest := [.ref (b 0)]) C (c_X2_isNone l G p0) F_X2_isNone rfl bw1216 bw1217 (hE.S hS hAB) vpn hl.1 dX2_nanoOfDay_2 ⟨Nat.le_of_ble_eq_true rfl, Nat.le_of_ble_eq_true rfl⟩ rfl (Nat.le_of_ble_eq_true rfl) ⟨Nat.le_of_ble_eq_true rfl, Nat.le_of_ble_eq_true rfl⟩ ?_
  refine lv_iconst (v := (0 : Int32)) hx hb dX2_nanoOfDay_5 (by decide) ?_
  refine wcVi (as := [.int (fX2_isNone p0), .int (0 : Int32)]) (rest := []) (cl := RX2) C (c_X2_refuses l G b T (fX2_isNone p0) (0 : Int32)) F_X2_refuses rfl bw1219 bw1221 bw33 (hE.S hS hAB) hP hD hS hA hAB (rv4 hE.K hP (q0 := 0) rfl) hl.1 dX2_nanoOfDay_6 ⟨Nat.le_of_ble_eq_true rfl, Nat.le_of_ble_eq_true rfl⟩ rfl (Nat.le_of_ble_eq_true rfl) ⟨Nat.le_of_ble_eq_true rfl, Nat.le_of_ble_eq_true rfl⟩ (fun H locs hP hD hS => ?_)
  have hP : va_P (gD G) vwCl (wM G b ((fth (fX2_isNone p0) (0 : Int32)), (my T), (mm T), (md T), (mt T), (T.2.2.2.2.2))) H := hP
  have hD : va_D A (wM G b ((fth (fX2_isNone p0) (0 : Int32)), (my T), (mm T), (md T), (mt T), (T.2.2.2.2.2))) := hD
  refine lv_if_eq (tgt := 17) hx hb dX2_nanoOfDay_9 (by decide) (fun c_1 => ?_) (fun c_1 => ?_)
  · have c_1 := rf_p c_1
    refine va_new (cl := vwCl) (tys := gT G) (ci := 1) (fs := [.null, .int 0, .int 0, .int 0]) (C := RJ4) (T := TJ4) (N := 4) hx hb hw inB_J4 tyJ4 tyJ4_ok hown (hw _ bw1510) (hw _ bw778) (hw _ bw67) hE.K hP hD hS hA rfl (fun j hj => by rcases (show j = 0 ∨ j = 1 ∨ j = 2 ∨ j = 3 by omega) with rfl | rfl | rfl | rfl <;> rfl) (Nat.le_of_ble_eq_true rfl) (Nat.le_of_ble_eq_true rfl) dX2_nanoOfDay_17 (fun q17 H hP hD hS => ?_)
    have hP : va_P (gD G) vwCl ((wM G b ((fth (fX2_isNone p0) (0 : Int32)), (my T), (mm T), (md T), (mt T), (T.2.2.2.2.2))) ++ [(q17, .inr (1, [.null, .int 0, .int 0, .int 0]))]) H := hP
    have hD : va_D A ((wM G b ((fth (fX2_isNone p0) (0 : Int32)), (my T), (mm T), (md T), (mt T), (T.2.2.2.2.2))) ++ [(q17, .inr (1, [.null, .int 0, .int 0, .int 0]))]) := hD
    refine lv_dup hx hb dX2_nanoOfDay_20 rfl ?_
    have hP9 : va_P (gD G) vwCl ((wM G b ((fth (fX2_isNone p0) (0 : Int32)), (my T), (mm T), (md T), (mt T), (T.2.2.2.2.2))) ++ [(q17, .inr (1, [.null, .int 0, .int 0, .int 0]))]) _ := hP
    have hD9 : va_D A ((wM G b ((fth (fX2_isNone p0) (0 : Int32)), (my T), (mm T), (md T), (mt T), (T.2.2.2.2.2))) ++ [(q17, .inr (1, [.null, .int 0, .int 0, .int 0]))]) := hD
    refine weI (wr := (wM G b ((fth (fX2_isNone p0) (0 : Int32)), (my T), (mm T), (md T), (mt T), (T.2.2.2.2.2)))) (wd := [(q17, .inr (1, [.null, .int 0, .int 0, .int 0]))]) (as := []) (rest := [.ref q17]) C (i_J4_init_da8c8 l G q17) F_J4_init_da8c8 rfl bw1511 bw780 rfl (hE.S hS hAB) hP9 hD9 hS hA hAB hl.1 dX2_nanoOfDay_21 ⟨Nat.le_of_ble_eq_true rfl, Nat.le_of_ble_eq_true rfl⟩ rfl (Nat.le_of_ble_eq_true rfl) ⟨Nat.le_of_ble_eq_true rfl, Nat.le_of_ble_eq_true rfl⟩ (fun r9 wd9 H locs hp9 hP hD hS => ?_)
    obtain ⟨rfl, v9_21, rfl⟩ := hp9
    have hP : va_P (gD G) vwCl ((wM G b ((fth (fX2_isNone p0) (0 : Int32)), (my T), (mm T), (md T), (mt T), (T.2.2.2.2.2))) ++ [(q17, .inr (1, [.ref v9_21, .int 0, .int 0, .int (nI 0)])), (v9_21, .inl (gC G 2, 16, .inl (fun _ => 0)))]) H := hP
    have hD : va_D A ((wM G b ((fth (fX2_isNone p0) (0 : Int32)), (my T), (mm T), (md T), (mt T), (T.2.2.2.2.2))) ++ [(q17, .inr (1, [.ref v9_21, .int 0, .int 0, .int (nI 0)])), (v9_21, .inl (gC G 2, 16, .inl (fun _ => 0)))]) := hD
    refine W.eq (g2 := F0 m 24 ls [.ref q17]) rfl ?_
    refine va_ldcS hx hb hown hE.1.2.2.2.2.1 dX2_nanoOfDay_24 ?_
    have hP9 : va_P (gD G) vwCl ((wM G b ((fth (fX2_isNone p0) (0 : Int32)), (my T), (mm T), (md T), (mt T), (T.2.2.2.2.2))) ++ [(q17, .inr (1, [.ref v9_21, .int 0, .int 0, .int (nI 0)])), (v9_21, .inl (gC G 2, 16, .inl (fun _ => 0)))]) _ := hP
    have hD9 : va_D A ((wM G b ((fth (fX2_isNone p0) (0 : Int32)), (my T), (mm T), (md T), (mt T), (T.2.2.2.2.2))) ++ [(q17, .inr (1, [.ref v9_21, .int 0, .int 0, .int (nI 0)])), (v9_21, .inl (gC G 2, 16, .inl (fun _ => 0)))]) := hD
    refine weVf (wr := (wM G b ((fth (fX2_isNone p0) (0 : Int32)), (my T), (mm T), (md T), (mt T), (T.2.2.2.2.2)))) (wd := [(q17, .inr (1, [.ref v9_21, .int 0, .int 0, .int (nI 0)])), (v9_21, .inl (gC G 2, 16, .inl (fun _ => 0)))]) (as := [.ref (ga G 6)]) (rest := []) (cl := RJ4) C (s_appS l G q17 v9_21 16 (fun _ => 0) (Or.inl rfl) sb_fit0) F_J4_append_15ec4 rfl bw1512 bw1014 (hw _ bw1015) (hE.S hS hAB) hP9 hD9 hS hA hAB (rv1 hE.K hP (q0 := 5) rfl) hl.1 dX2_nanoOfDay_26 ⟨Nat.le_of_ble_eq_true rfl, Nat.le_of_ble_eq_true rfl⟩ rfl (Nat.le_of_ble_eq_true rfl) ⟨Nat.le_of_ble_eq_true rfl, Nat.le_of_ble_eq_true rfl⟩ (fun r9 wd9 H locs hp9 hP hD hS => ?_)
    obtain ⟨rfl, v9_26, m9_26, f9_26, rfl, hm9_26, hle9_26, hf9_26⟩ := hp9
    have hP : va_P (gD G) vwCl ((wM G b ((fth (fX2_isNone p0) (0 : Int32)), (my T), (mm T), (md T), (mt T), (T.2.2.2.2.2))) ++ [(q17, .inr (1, [.ref v9_26, .int 0, .int 0, .int (nI 0)])), (v9_26, .inl (gC G 2, m9_26, .inl f9_26))]) H := hP
    have hD : va_D A ((wM G b ((fth (fX2_isNone p0) (0 : Int32)), (my T), (mm T), (md T), (mt T), (T.2.2.2.2.2))) ++ [(q17, .inr (1, [.ref v9_26, .int 0, .int 0, .int (nI 0)])), (v9_26, .inl (gC G 2, m9_26, .inl f9_26))]) := hD
    refine W.eq (g2 := F0 m 29 ls [.ref q17]) rfl ?_
    refine lv_aload_n hx hb dX2_nanoOfDay_29 rfl (lv_at hl 0 rfl) ?_
    refine va_get (D := gD G) (cl := vwCl) (tys := gT G) (ci := 4) (v := .ref (b 4)) (C := RX2) (T := TX2) (N := 12) hx hb hw inB_X2 hown hE.K hP 0 rfl rfl 4 (by decide) (hw _ bw1167) (fun _ h9 => h9) rfl dX2_nanoOfDay_30 ?_
    refine lv_iload_n hx hb dX2_nanoOfDay_33 rfl (lv_at hl 1 rfl) ?_
    refine va_lald (tys := gT G) hx hb hE.K hP 4 1 rfl rfl (none_in (frf_a c_1)) dX2_nanoOfDay_34 ?_
    obtain ⟨k9_35, d9_35, hs9_35⟩ := SS_of ((mt T) p0.toNatClampNeg)
    have hP9 : va_P (gD G) vwCl ((wM G b ((fth (fX2_isNone p0) (0 : Int32)), (my T), (mm T), (md T), (mt T), (T.2.2.2.2.2))) ++ [(q17, .inr (1, [.ref v9_26, .int 0, .int 0, .int (nI 0)])), (v9_26, .inl (gC G 2, m9_26, .inl f9_26))]) _ := hP
    have hD9 : va_D A ((wM G b ((fth (fX2_isNone p0) (0 : Int32)), (my T), (mm T), (md T), (mt T), (T.2.2.2.2.2))) ++ [(q17, .inr (1, [.ref v9_26, .int 0, .int 0, .int (nI 0)])), (v9_26, .inl (gC G 2, m9_26, .inl f9_26))]) := hD
    refine weVf (wr := (wM G b ((fth (fX2_isNone p0) (0 : Int32)), (my T), (mm T), (md T), (mt T), (T.2.2.2.2.2)))) (wd := [(q17, .inr (1, [.ref v9_26, .int 0, .int 0, .int (nI 0)])), (v9_26, .inl (gC G 2, m9_26, .inl f9_26))]) (as := [.long ((mt T) p0.toNatClampNeg)]) (rest := []) (cl := RJ4) C (s_appL l G q17 v9_26 m9_26 k9_35 d9_35 f9_26 ((mt T) p0.toNatClampNeg) hm9_26 hf9_26 hs9_35) F_J4_append_f7089 rfl bw1513 bw1514 (hw _ bw1515) (hE.S hS hAB) hP9 hD9 hS hA hAB (rv1 hE.K hP (q0 := 5) rfl) hl.1 dX2_nanoOfDay_35 ⟨Nat.le_of_ble_eq_true rfl, Nat.le_of_ble_eq_true rfl⟩ rfl (Nat.le_of_ble_eq_true rfl) ⟨Nat.le_of_ble_eq_true rfl, Nat.le_of_ble_eq_true rfl⟩ (fun r9 wd9 H locs hp9 hP hD hS => ?_)
    obtain ⟨rfl, v9_35, m9_35, f9_35, rfl, hm9_35, hle9_35, hf9_35⟩ := hp9
    have hP : va_P (gD G) vwCl ((wM G b ((fth (fX2_isNone p0) (0 : Int32)), (my T), (mm T), (md T), (mt T), (T.2.2.2.2.2))) ++ [(q17, .inr (1, [.ref v9_35, .int 0, .int 0, .int (nI (k9_35 + d9_35))])), (v9_35, .inl (gC G 2, m9_35, .inl f9_35))]) H := hP
    have hD : va_D A ((wM G b ((fth (fX2_isNone p0) (0 : Int32)), (my T), (mm T), (md T), (mt T), (T.2.2.2.2.2))) ++ [(q17, .inr (1, [.ref v9_35, .int 0, .int 0, .int (nI (k9_35 + d9_35))])), (v9_35, .inl (gC G 2, m9_35, .inl f9_35))]) := hD
    refine W.eq (g2 := F0 m 38 ls [.ref q17]) rfl ?_
    have hP9 : va_P (gD G) vwCl ((wM G b ((fth (fX2_isNone p0) (0 : Int32)), (my T), (mm T), (md T), (mt T), (T.2.2.2.2.2))) ++ [(q17, .inr (1, [.ref v9_35, .int 0, .int 0, .int (nI (k9_35 + d9_35))])), (v9_35, .inl (gC G 2, m9_35, .inl f9_35))]) _ := hP
    have hD9 : va_D A ((wM G b ((fth (fX2_isNone p0) (0 : Int32)), (my T), (mm T), (md T), (mt T), (T.2.2.2.2.2))) ++ [(q17, .inr (1, [.ref v9_35, .int 0, .int 0, .int (nI (k9_35 + d9_35))])), (v9_35, .inl (gC G 2, m9_35, .inl f9_35))]) := hD
    refine weVf (wr := (wM G b ((fth (fX2_isNone p0) (0 : Int32)), (my T), (mm T), (md T), (mt T), (T.2.2.2.2.2)))) (wd := [(q17, .inr (1, [.ref v9_35, .int 0, .int 0, .int (nI (k9_35 + d9_35))])), (v9_35, .inl (gC G 2, m9_35, .inl f9_35))]) (as := []) (rest := []) (cl := RJ4) C (s_toString l G q17 v9_35 m9_35 (k9_35 + d9_35) f9_35 (mOK.lt hm9_35) hle9_35 hf9_35) F_J4_toString_0e30d rfl bw1540 bw943 (hw _ bw944) (hE.S hS hAB) hP9 hD9 hS hA hAB (rv1 hE.K hP (q0 := 5) rfl) hl.1 dX2_nanoOfDay_38 ⟨Nat.le_of_ble_eq_true rfl, Nat.le_of_ble_eq_true rfl⟩ rfl (Nat.le_of_ble_eq_true rfl) ⟨Nat.le_of_ble_eq_true rfl, Nat.le_of_ble_eq_true rfl⟩ (fun r9 wd9 H locs hp9 hP hD hS => ?_)
    obtain ⟨q9_38, u9_38, f9_38, rfl, rfl⟩ := hp9
    have hP : va_P (gD G) vwCl ((wM G b ((fth (fX2_isNone p0) (0 : Int32)), (my T), (mm T), (md T), (mt T), (T.2.2.2.2.2))) ++ [(q9_38, .inr (0, [.ref u9_38, .int 0, .int 0, .int 0])), (u9_38, .inl (gC G 2, (k9_35 + d9_35), .inl f9_38))]) H := hP
    have hD : va_D A ((wM G b ((fth (fX2_isNone p0) (0 : Int32)), (my T), (mm T), (md T), (mt T), (T.2.2.2.2.2))) ++ [(q9_38, .inr (0, [.ref u9_38, .int 0, .int 0, .int 0])), (u9_38, .inl (gC G 2, (k9_35 + d9_35), .inl f9_38))]) := hD
    refine W.eq (g2 := F0 m 41 ls [.ref q9_38]) rfl ?_
    exact weA hx hb hr (Or.inl ⟨_, rfl⟩) hk ⟨⟨_, rfl⟩, (congrArg (wM G b) (show gX2_nanoOfDay T p0 = ((fth (fX2_isNone p0) (0 : Int32)), (my T), (mm T), (md T), (mt T), (T.2.2.2.2.2)) from (if_pos c_1)).symm)⟩ (show va_P (gD G) vwCl (wM G b ((fth (fX2_isNone p0) (0 : Int32)), (my T), (mm T), (md T), (mt T), (T.2.2.2.2.2))) _ from hP.sub [0, 1, 2, 3, 4] rfl) (show va_D A (wM G b ((fth (fX2_isNone p0) (0 : Int32)), (my T), (mm T), (md T), (mt T), (T.2.2.2.2.2))) from hD.sub [0, 1, 2, 3, 4] (by decide) rfl) hS (Nat.le_of_ble_eq_true rfl) (Nat.le_of_ble_eq_true rfl) dX2_nanoOfDay_41
  · have c_1 := rf_n c_1
    refine va_ldcS hx hb hown hE.1.2.2.2.2.1 dX2_nanoOfDay_12 ?_
    refine lv_goto (tgt := 41) hx hb dX2_nanoOfDay_14 (by decide) ?_
    exact weA hx hb hr (Or.inl ⟨_, rfl⟩) hk ⟨⟨_, rfl⟩, (congrArg (wM G b) (show gX2_nanoOfDay T p0 = ((fth (fX2_isNone p0) (0 : Int32)), (my T), (mm T), (md T), (mt T), (T.2.2.2.2.2)) from (if_neg c_1)).symm)⟩ hP hD hS (Nat.le_of_ble_eq_true rfl) (Nat.le_of_ble_eq_true rfl) dX2_nanoOfDay_41

