set_option maxRecDepth 100000 in
set_option maxHeartbeats 4000000 in
theorem u_betweenNow (l : Launch) (G : GT) (b : Nat → Nat) (T : SM) (p0 : Int32) (p1 : Int32) (p2 : Int32) (h0 : vp_in p0 6) (h1 : vp_in p1 6) (hT : MO T) : WE l G yX2_betweenNow cX2_betweenNow 7 (some (.object "java/lang/String")) 9 6 160 [.ref (b 0), .int p0, .int p1, .int p2] (wM G b T) (fun r wd => (∃ q : Nat, r = some (.ref q)) ∧ wd = wM G b (gX2_betweenNow T p0 p1 p2)) := by
  refine WE.ofW (own := RX2) rfl (by decide +kernel) (Nat.le_of_ble_eq_true rfl) ?_
  intro p e s m below meth c A C hr hk hnm hE hP hD hA hAB hS ls hl
  have hx := C.1
  have hb := C.2.1
  have hml := C.2.2.1
  have hown := C.2.2.2.1
  have hw := C.2.2.2.2
  have hl : lv_has ls 7 [(0, .ref (b 0)), (1, .int p0), (2, .int p1), (3, .int p2)] := hl
  refine lv_iload_n hx hb dX2_betweenNow_0 rfl (lv_at hl 3 rfl) ?_
  refine lv_if_ne (tgt := 29) hx hb dX2_betweenNow_1 (by decide) (fun c_1 => ?_) (fun c_1 => ?_)
  · refine lv_iconst (v := (0 : Int32)) hx hb dX2_betweenNow_29 (by decide) ?_
    refine lv_istore (lv' := [(4, .int (0 : Int32)), (0, .ref (b 0)), (1, .int p0), (2, .int p1), (3, .int p2)]) hx hb dX2_betweenNow_30 hl (Nat.le_of_ble_eq_true rfl) rfl (fun ls hl => ?_)
    refine lv_iload hx hb dX2_betweenNow_32 (lv_at hl 0 rfl) ?_
    refine lv_if_ne (tgt := 65) hx hb dX2_betweenNow_34 (by decide) (fun c_x => absurd (show (0 : Int32) = 0 from by decide) c_x) (fun _ => ?_)
    refine lv_iload_n hx hb dX2_betweenNow_37 rfl (lv_at hl 4 rfl) ?_
    refine lv_bipush (v := (8 : Int32)) hx hb dX2_betweenNow_38 (by decide) ?_
    refine lv_icmp_le (tgt := 78) hx hb dX2_betweenNow_40 (by decide) (fun c_2 => ?_) (fun c_2 => ?_)
    · refine lv_iload_n hx hb dX2_betweenNow_78 rfl (lv_at hl 4 rfl) ?_
      refine lv_bipush (v := (9 : Int32)) hx hb dX2_betweenNow_79 (by decide) ?_
      refine lv_icmp_ge (tgt := 110) hx hb dX2_betweenNow_81 (by decide) (fun c_x => absurd c_x (le8_9 c_2)) (fun _ => ?_)
      refine va_new (cl := vwCl) (tys := gT G) (ci := 1) (fs := [.null, .int 0, .int 0, .int 0]) (C := RJ4) (T := TJ4) (N := 4) hx hb hw inB_J4 tyJ4 tyJ4_ok hown (hw _ bw1510) (hw _ bw778) (hw _ bw67) hE.K hP hD hS hA rfl (fun j hj => by rcases (show j = 0 ∨ j = 1 ∨ j = 2 ∨ j = 3 by omega) with rfl | rfl | rfl | rfl <;> rfl) (Nat.le_of_ble_eq_true rfl) (Nat.le_of_ble_eq_true rfl) dX2_betweenNow_84 (fun q84 H hP hD hS => ?_)
      have hP : va_P (gD G) vwCl ((wM G b T) ++ [(q84, .inr (1, [.null, .int 0, .int 0, .int 0]))]) H := hP
      have hD : va_D A ((wM G b T) ++ [(q84, .inr (1, [.null, .int 0, .int 0, .int 0]))]) := hD
      refine lv_dup hx hb dX2_betweenNow_87 rfl ?_
      have hP9 : va_P (gD G) vwCl ((wM G b T) ++ [(q84, .inr (1, [.null, .int 0, .int 0, .int 0]))]) _ := hP
      have hD9 : va_D A ((wM G b T) ++ [(q84, .inr (1, [.null, .int 0, .int 0, .int 0]))]) := hD
      refine weI (wr := (wM G b T)) (wd := [(q84, .inr (1, [.null, .int 0, .int 0, .int 0]))]) (as := []) (rest := [.ref q84]) C (i_J4_init_da8c8 l G q84) F_J4_init_da8c8 rfl bw1511 bw780 rfl (hE.S hS hAB) hP9 hD9 hS hA hAB hl.1 dX2_betweenNow_88 ⟨Nat.le_of_ble_eq_true rfl, Nat.le_of_ble_eq_true rfl⟩ rfl (Nat.le_of_ble_eq_true rfl) ⟨Nat.le_of_ble_eq_true rfl, Nat.le_of_ble_eq_true rfl⟩ (fun r9 wd9 H locs hp9 hP hD hS => ?_)
      obtain ⟨rfl, v9_88, rfl⟩ := hp9
      have hP : va_P (gD G) vwCl ((wM G b T) ++ [(q84, .inr (1, [.ref v9_88, .int 0, .int 0, .int (nI 0)])), (v9_88, .inl (gC G 2, 16, .inl (fun _ => 0)))]) H := hP
      have hD : va_D A ((wM G b T) ++ [(q84, .inr (1, [.ref v9_88, .int 0, .int 0, .int (nI 0)])), (v9_88, .inl (gC G 2, 16, .inl (fun _ => 0)))]) := hD
      refine W.eq (g2 := F0 m 91 ls [.ref q84]) rfl ?_
      refine va_ldcS hx hb hown hE.1.2.2.2.2.1 dX2_betweenNow_91 ?_
      have hP9 : va_P (gD G) vwCl ((wM G b T) ++ [(q84, .inr (1, [.ref v9_88, .int 0, .int 0, .int (nI 0)])), (v9_88, .inl (gC G 2, 16, .inl (fun _ => 0)))]) _ := hP
      have hD9 : va_D A ((wM G b T) ++ [(q84, .inr (1, [.ref v9_88, .int 0, .int 0, .int (nI 0)])), (v9_88, .inl (gC G 2, 16, .inl (fun _ => 0)))]) := hD
      refine weVf (wr := (wM G b T)) (wd := [(q84, .inr (1, [.ref v9_88, .int 0, .int 0, .int (nI 0)])), (v9_88, .inl (gC G 2, 16, .inl (fun _ => 0)))]) (as := [.ref (ga G 6)]) (rest := []) (cl := RJ4) C (s_appS l G q84 v9_88 16 (fun _ => 0) (Or.inl rfl) sb_fit0) F_J4_append_15ec4 rfl bw1512 bw1014 (hw _ bw1015) (hE.S hS hAB) hP9 hD9 hS hA hAB (rv1 hE.K hP (q0 := 5) rfl) hl.1 dX2_betweenNow_93 ⟨Nat.le_of_ble_eq_true rfl, Nat.le_of_ble_eq_true rfl⟩ rfl (Nat.le_of_ble_eq_true rfl) ⟨Nat.le_of_ble_eq_true rfl, Nat.le_of_ble_eq_true rfl⟩ (fun r9 wd9 H locs hp9 hP hD hS => ?_)
      obtain ⟨rfl, v9_93, m9_93, f9_93, rfl, hm9_93, hle9_93, hf9_93⟩ := hp9
      have hP : va_P (gD G) vwCl ((wM G b T) ++ [(q84, .inr (1, [.ref v9_93, .int 0, .int 0, .int (nI 0)])), (v9_93, .inl (gC G 2, m9_93, .inl f9_93))]) H := hP
      have hD : va_D A ((wM G b T) ++ [(q84, .inr (1, [.ref v9_93, .int 0, .int 0, .int (nI 0)])), (v9_93, .inl (gC G 2, m9_93, .inl f9_93))]) := hD
      refine W.eq (g2 := F0 m 96 ls [.ref q84]) rfl ?_
      refine lv_aload_n hx hb dX2_betweenNow_96 rfl (lv_at hl 1 rfl) ?_
      refine lv_iload_n hx hb dX2_betweenNow_97 rfl (lv_at hl 2 rfl) ?_
      refine lv_iload_n hx hb dX2_betweenNow_98 rfl (lv_at hl 3 rfl) ?_
      refine lv_iload_n hx hb dX2_betweenNow_99 rfl (lv_at hl 4 rfl) ?_
      refine rcVf (st1 := [.long (fX2_lineBetween T p0 p1 p2), .ref q84]) (as := [.int p0, .int p1, .int p2]) (rest := [.ref q84]) (cl := RX2) C (c_X2_lineBetween l G b T p0 p1 p2 h0 h1 hT) F_X2_lineBetween rfl bw1584 bw1586 (hw _ bw50) (hE.S hS hAB) (show va_P (gD G) vwCl (wM G b T) _ from hP.sub [0, 1, 2, 3, 4] rfl) (rv4 hE.K hP (q0 := 0) rfl) hl.1 dX2_betweenNow_100 ⟨Nat.le_of_ble_eq_true rfl, Nat.le_of_ble_eq_true rfl⟩ rfl (Nat.le_of_ble_eq_true rfl) ⟨Nat.le_of_ble_eq_true rfl, Nat.le_of_ble_eq_true rfl⟩ rfl ?_
      obtain ⟨k9_103, d9_103, hs9_103⟩ := SS_of (fX2_lineBetween T p0 p1 p2)
      have hP9 : va_P (gD G) vwCl ((wM G b T) ++ [(q84, .inr (1, [.ref v9_93, .int 0, .int 0, .int (nI 0)])), (v9_93, .inl (gC G 2, m9_93, .inl f9_93))]) _ := hP
      have hD9 : va_D A ((wM G b T) ++ [(q84, .inr (1, [.ref v9_93, .int 0, .int 0, .int (nI 0)])), (v9_93, .inl (gC G 2, m9_93, .inl f9_93))]) := hD
      refine weVf (wr := (wM G b T)) (wd := [(q84, .inr (1, [.ref v9_93, .int 0, .int 0, .int (nI 0)])), (v9_93, .inl (gC G 2, m9_93, .inl f9_93))]) (as := [.long (fX2_lineBetween T p0 p1 p2)]) (rest := []) (cl := RJ4) C (s_appL l G q84 v9_93 m9_93 k9_103 d9_103 f9_93 (fX2_lineBetween T p0 p1 p2) hm9_93 hf9_93 hs9_103) F_J4_append_f7089 rfl bw1513 bw1514 (hw _ bw1515) (hE.S hS hAB) hP9 hD9 hS hA hAB (rv1 hE.K hP (q0 := 5) rfl) hl.1 dX2_betweenNow_103 ⟨Nat.le_of_ble_eq_true rfl, Nat.le_of_ble_eq_true rfl⟩ rfl (Nat.le_of_ble_eq_true rfl) ⟨Nat.le_of_ble_eq_true rfl, Nat.le_of_ble_eq_true rfl⟩ (fun r9 wd9 H locs hp9 hP hD hS => ?_)
      obtain ⟨rfl, v9_103, m9_103, f9_103, rfl, hm9_103, hle9_103, hf9_103⟩ := hp9
      have hP : va_P (gD G) vwCl ((wM G b T) ++ [(q84, .inr (1, [.ref v9_103, .int 0, .int 0, .int (nI (k9_103 + d9_103))])), (v9_103, .inl (gC G 2, m9_103, .inl f9_103))]) H := hP
      have hD : va_D A ((wM G b T) ++ [(q84, .inr (1, [.ref v9_103, .int 0, .int 0, .int (nI (k9_103 + d9_103))])), (v9_103, .inl (gC G 2, m9_103, .inl f9_103))]) := hD
      refine W.eq (g2 := F0 m 106 ls [.ref q84]) rfl ?_
      have hP9 : va_P (gD G) vwCl ((wM G b T) ++ [(q84, .inr (1, [.ref v9_103, .int 0, .int 0, .int (nI (k9_103 + d9_103))])), (v9_103, .inl (gC G 2, m9_103, .inl f9_103))]) _ := hP
      have hD9 : va_D A ((wM G b T) ++ [(q84, .inr (1, [.ref v9_103, .int 0, .int 0, .int (nI (k9_103 + d9_103))])), (v9_103, .inl (gC G 2, m9_103, .inl f9_103))]) := hD
      refine weVf (wr := (wM G b T)) (wd := [(q84, .inr (1, [.ref v9_103, .int 0, .int 0, .int (nI (k9_103 + d9_103))])), (v9_103, .inl (gC G 2, m9_103, .inl f9_103))]) (as := []) (rest := []) (cl := RJ4) C (s_toString l G q84 v9_103 m9_103 (k9_103 + d9_103) f9_103 (mOK.lt hm9_103) hle9_103 hf9_103) F_J4_toString_0e30d rfl bw1540 bw943 (hw _ bw944) (hE.S hS hAB) hP9 hD9 hS hA hAB (rv1 hE.K hP (q0 := 5) rfl) hl.1 dX2_betweenNow_106 ⟨Nat.le_of_ble_eq_true rfl, Nat.le_of_ble_eq_true rfl⟩ rfl (Nat.le_of_ble_eq_true rfl) ⟨Nat.le_of_ble_eq_true rfl, Nat.le_of_ble_eq_true rfl⟩ (fun r9 wd9 H locs hp9 hP hD hS => ?_)
      obtain ⟨q9_106, u9_106, f9_106, rfl, rfl⟩ := hp9
      have hP : va_P (gD G) vwCl ((wM G b T) ++ [(q9_106, .inr (0, [.ref u9_106, .int 0, .int 0, .int 0])), (u9_106, .inl (gC G 2, (k9_103 + d9_103), .inl f9_106))]) H := hP
      have hD : va_D A ((wM G b T) ++ [(q9_106, .inr (0, [.ref u9_106, .int 0, .int 0, .int 0])), (u9_106, .inl (gC G 2, (k9_103 + d9_103), .inl f9_106))]) := hD
      refine W.eq (g2 := F0 m 109 ls [.ref q9_106]) rfl ?_
      exact weA hx hb hr (Or.inl ⟨_, rfl⟩) hk ⟨⟨_, rfl⟩, (congrArg (wM G b) (show gX2_betweenNow T p0 p1 p2 = T from (Eq.trans (if_neg c_1) (if_pos c_2))).symm)⟩ (show va_P (gD G) vwCl (wM G b T) _ from hP.sub [0, 1, 2, 3, 4] rfl) (show va_D A (wM G b T) from hD.sub [0, 1, 2, 3, 4] (by decide) rfl) hS (Nat.le_of_ble_eq_true rfl) (Nat.le_of_ble_eq_true rfl) dX2_betweenNow_109
    · refine lv_aload_n hx hb dX2_betweenNow_43 rfl (lv_at hl 1 rfl) ?_
      refine va_get (D := gD G) (cl := vwCl) (tys := gT G) (ci := 4) (v := .ref (b 3)) (C := RX2) (T := TX2) (N := 12) hx hb hw inB_X2 hown hE.K hP 0 rfl rfl 3 (by decide) (hw _ bw1166) (fun _ h9 => h9) rfl dX2_betweenNow_44 ?_
      refine lv_iload_n hx hb dX2_betweenNow_47 rfl (lv_at hl 2 rfl) ?_
      refine va_iald (tys := gT G) hx hb hE.K hP 3 0 rfl rfl h0 dX2_betweenNow_48 ?_
      refine lv_bipush (v := (28 : Int32)) hx hb dX2_betweenNow_49 (by decide) ?_
      refine lv_icmp_gt (tgt := 65) hx hb dX2_betweenNow_51 (by decide) (fun c_3 => ?_) (fun c_3 => ?_)
      · refine lv_aload_n hx hb dX2_betweenNow_65 rfl (lv_at hl 1 rfl) ?_
        refine lv_dup hx hb dX2_betweenNow_66 rfl ?_
        refine va_get (D := gD G) (cl := vwCl) (tys := gT G) (ci := 4) (v := .int (mi T 5)) (C := RX2) (T := TX2) (N := 12) hx hb hw inB_X2 hown hE.K hP 0 rfl rfl 10 (by decide) (hw _ bw1173) (fun _ h9 => h9) rfl dX2_betweenNow_67 ?_
        refine lv_iconst (v := (1 : Int32)) hx hb dX2_betweenNow_70 (by decide) ?_
        refine lv_iadd hx hb dX2_betweenNow_71 ?_
        refine va_put (D := gD G) (cl := vwCl) (tys := gT G) (ci := 4) (v := .int ((mi T 5) + (1 : Int32))) (ty := .int) (C := RX2) (T := TX2) (N := 12) hx hb hw inB_X2 tyX2 tyX2_ok nmX2 hown hE.K hP hD hS 0 rfl rfl 10 (by decide) (hw _ bw1173) (fun _ h9 => h9) rfl (by decide +kernel) rfl rfl (Nat.le_of_ble_eq_true rfl) dX2_betweenNow_72 (fun H locs hP hD hS => ?_)
        have hP : va_P (gD G) vwCl (wM G b ((mth T), (my T), (mm T), (md T), (mt T), (upd (T.2.2.2.2.2) 5 ((mi T 5) + (1 : Int32))))) H := hP
        have hD : va_D A (wM G b ((mth T), (my T), (mm T), (md T), (mt T), (upd (T.2.2.2.2.2) 5 ((mi T 5) + (1 : Int32))))) := hD
        refine va_ldcS hx hb hown hE.1.2.2.2.2.2.1 dX2_betweenNow_75 ?_
        exact weA hx hb hr (Or.inl ⟨_, rfl⟩) hk ⟨⟨_, rfl⟩, (congrArg (wM G b) (show gX2_betweenNow T p0 p1 p2 = ((mth T), (my T), (mm T), (md T), (mt T), (upd (T.2.2.2.2.2) 5 ((mi T 5) + (1 : Int32)))) from (Eq.trans (if_neg c_1) (Eq.trans (if_neg c_2) (if_pos c_3)))).symm)⟩ hP hD hS (Nat.le_of_ble_eq_true rfl) (Nat.le_of_ble_eq_true rfl) dX2_betweenNow_77
      · refine lv_aload_n hx hb dX2_betweenNow_54 rfl (lv_at hl 1 rfl) ?_
        refine va_get (D := gD G) (cl := vwCl) (tys := gT G) (ci := 4) (v := .ref (b 3)) (C := RX2) (T := TX2) (N := 12) hx hb hw inB_X2 hown hE.K hP 0 rfl rfl 3 (by decide) (hw _ bw1166) (fun _ h9 => h9) rfl dX2_betweenNow_55 ?_
        refine lv_iload_n hx hb dX2_betweenNow_58 rfl (lv_at hl 3 rfl) ?_
        refine va_iald (tys := gT G) hx hb hE.K hP 3 0 rfl rfl h1 dX2_betweenNow_59 ?_
        refine lv_bipush (v := (28 : Int32)) hx hb dX2_betweenNow_60 (by decide) ?_
        refine lv_icmp_le (tgt := 78) hx hb dX2_betweenNow_62 (by decide) (fun c_4 => ?_) (fun c_4 => ?_)
        · refine lv_iload_n hx hb dX2_betweenNow_78 rfl (lv_at hl 4 rfl) ?_
          refine lv_bipush (v := (9 : Int32)) hx hb dX2_betweenNow_79 (by decide) ?_
          refine lv_icmp_ge (tgt := 110) hx hb dX2_betweenNow_81 (by decide) (fun _ => ?_) (fun c_x => absurd (gt8_9 c_2) c_x)
          refine lv_aload_n hx hb dX2_betweenNow_110 rfl (lv_at hl 1 rfl) ?_
          refine lv_iload_n hx hb dX2_betweenNow_111 rfl (lv_at hl 2 rfl) ?_
          refine lv_iload_n hx hb dX2_betweenNow_112 rfl (lv_at hl 3 rfl) ?_
          refine rcVi (as := [.int p0, .int p1]) (rest := []) (cl := RX2) C (c_X2_order l G b T p0 p1 h0 h1 hT) F_X2_order rfl bw1561 bw1563 bw48 (hE.S hS hAB) hP (rv4 hE.K hP (q0 := 0) rfl) hl.1 dX2_betweenNow_113 ⟨Nat.le_of_ble_eq_true rfl, Nat.le_of_ble_eq_true rfl⟩ rfl (Nat.le_of_ble_eq_true rfl) ⟨Nat.le_of_ble_eq_true rfl, Nat.le_of_ble_eq_true rfl⟩ ?_
          refine lv_if_gt (tgt := 128) hx hb dX2_betweenNow_116 (by decide) (fun c_5 => ?_) (fun c_5 => ?_)
          · refine lv_aload_n hx hb dX2_betweenNow_128 rfl (lv_at hl 1 rfl) ?_
            refine lv_iload_n hx hb dX2_betweenNow_129 rfl (lv_at hl 2 rfl) ?_
            refine lv_iload_n hx hb dX2_betweenNow_130 rfl (lv_at hl 3 rfl) ?_
            refine rcVl (as := [.int p0, .int p1]) (rest := []) (cl := RX2) C (c_X2_monthsBack l G b T p0 p1 h0 h1) F_X2_monthsBack rfl bw1592 bw1594 bw52 (hE.S hS hAB) hP (rv4 hE.K hP (q0 := 0) rfl) hl.1 dX2_betweenNow_131 ⟨Nat.le_of_ble_eq_true rfl, Nat.le_of_ble_eq_true rfl⟩ rfl (Nat.le_of_ble_eq_true rfl) ⟨Nat.le_of_ble_eq_true rfl, Nat.le_of_ble_eq_true rfl⟩ ?_
            refine lv_lneg hx hb dX2_betweenNow_134 ?_
            refine lv_lstore (lv' := [(5, .long (-(fX2_monthsBack T p0 p1))), (4, .int (0 : Int32)), (0, .ref (b 0)), (1, .int p0), (2, .int p1), (3, .int p2)]) hx hb dX2_betweenNow_135 hl (Nat.le_of_ble_eq_true rfl) rfl (fun ls hl => ?_)
            refine va_new (cl := vwCl) (tys := gT G) (ci := 1) (fs := [.null, .int 0, .int 0, .int 0]) (C := RJ4) (T := TJ4) (N := 4) hx hb hw inB_J4 tyJ4 tyJ4_ok hown (hw _ bw1510) (hw _ bw778) (hw _ bw67) hE.K hP hD hS hA rfl (fun j hj => by rcases (show j = 0 ∨ j = 1 ∨ j = 2 ∨ j = 3 by omega) with rfl | rfl | rfl | rfl <;> rfl) (Nat.le_of_ble_eq_true rfl) (Nat.le_of_ble_eq_true rfl) dX2_betweenNow_137 (fun q137 H hP hD hS => ?_)
            have hP : va_P (gD G) vwCl ((wM G b T) ++ [(q137, .inr (1, [.null, .int 0, .int 0, .int 0]))]) H := hP
            have hD : va_D A ((wM G b T) ++ [(q137, .inr (1, [.null, .int 0, .int 0, .int 0]))]) := hD
            refine lv_dup hx hb dX2_betweenNow_140 rfl ?_
            have hP9 : va_P (gD G) vwCl ((wM G b T) ++ [(q137, .inr (1, [.null, .int 0, .int 0, .int 0]))]) _ := hP
            have hD9 : va_D A ((wM G b T) ++ [(q137, .inr (1, [.null, .int 0, .int 0, .int 0]))]) := hD
            refine weI (wr := (wM G b T)) (wd := [(q137, .inr (1, [.null, .int 0, .int 0, .int 0]))]) (as := []) (rest := [.ref q137]) C (i_J4_init_da8c8 l G q137) F_J4_init_da8c8 rfl bw1511 bw780 rfl (hE.S hS hAB) hP9 hD9 hS hA hAB hl.1 dX2_betweenNow_141 ⟨Nat.le_of_ble_eq_true rfl, Nat.le_of_ble_eq_true rfl⟩ rfl (Nat.le_of_ble_eq_true rfl) ⟨Nat.le_of_ble_eq_true rfl, Nat.le_of_ble_eq_true rfl⟩ (fun r9 wd9 H locs hp9 hP hD hS => ?_)
            obtain ⟨rfl, v9_141, rfl⟩ := hp9
            have hP : va_P (gD G) vwCl ((wM G b T) ++ [(q137, .inr (1, [.ref v9_141, .int 0, .int 0, .int (nI 0)])), (v9_141, .inl (gC G 2, 16, .inl (fun _ => 0)))]) H := hP
            have hD : va_D A ((wM G b T) ++ [(q137, .inr (1, [.ref v9_141, .int 0, .int 0, .int (nI 0)])), (v9_141, .inl (gC G 2, 16, .inl (fun _ => 0)))]) := hD
            refine W.eq (g2 := F0 m 144 ls [.ref q137]) rfl ?_
            refine va_ldcS hx hb hown hE.1.2.2.2.2.1 dX2_betweenNow_144 ?_
            have hP9 : va_P (gD G) vwCl ((wM G b T) ++ [(q137, .inr (1, [.ref v9_141, .int 0, .int 0, .int (nI 0)])), (v9_141, .inl (gC G 2, 16, .inl (fun _ => 0)))]) _ := hP
            have hD9 : va_D A ((wM G b T) ++ [(q137, .inr (1, [.ref v9_141, .int 0, .int 0, .int (nI 0)])), (v9_141, .inl (gC G 2, 16, .inl (fun _ => 0)))]) := hD
            refine weVf (wr := (wM G b T)) (wd := [(q137, .inr (1, [.ref v9_141, .int 0, .int 0, .int (nI 0)])), (v9_141, .inl (gC G 2, 16, .inl (fun _ => 0)))]) (as := [.ref (ga G 6)]) (rest := []) (cl := RJ4) C (s_appS l G q137 v9_141 16 (fun _ => 0) (Or.inl rfl) sb_fit0) F_J4_append_15ec4 rfl bw1512 bw1014 (hw _ bw1015) (hE.S hS hAB) hP9 hD9 hS hA hAB (rv1 hE.K hP (q0 := 5) rfl) hl.1 dX2_betweenNow_146 ⟨Nat.le_of_ble_eq_true rfl, Nat.le_of_ble_eq_true rfl⟩ rfl (Nat.le_of_ble_eq_true rfl) ⟨Nat.le_of_ble_eq_true rfl, Nat.le_of_ble_eq_true rfl⟩ (fun r9 wd9 H locs hp9 hP hD hS => ?_)
            obtain ⟨rfl, v9_146, m9_146, f9_146, rfl, hm9_146, hle9_146, hf9_146⟩ := hp9
            have hP : va_P (gD G) vwCl ((wM G b T) ++ [(q137, .inr (1, [.ref v9_146, .int 0, .int 0, .int (nI 0)])), (v9_146, .inl (gC G 2, m9_146, .inl f9_146))]) H := hP
            have hD : va_D A ((wM G b T) ++ [(q137, .inr (1, [.ref v9_146, .int 0, .int 0, .int (nI 0)])), (v9_146, .inl (gC G 2, m9_146, .inl f9_146))]) := hD
            refine W.eq (g2 := F0 m 149 ls [.ref q137]) rfl ?_
            refine lv_lload hx hb dX2_betweenNow_149 (lv_at hl 0 rfl) ?_
            refine lv_iload_n hx hb dX2_betweenNow_151 rfl (lv_at hl 5 rfl) ?_
            refine rcSf (st1 := [.int (fX2_monthsOf p2), .long (-(fX2_monthsBack T p0 p1)), .ref q137]) (as := [.int p2]) (rest := [.long (-(fX2_monthsBack T p0 p1)), .ref q137]) C (c_X2_monthsOf l G p2) F_X2_monthsOf rfl bw1445 bw1446 (hE.S hS hAB) vpn hl.1 dX2_betweenNow_152 ⟨Nat.le_of_ble_eq_true rfl, Nat.le_of_ble_eq_true rfl⟩ rfl (Nat.le_of_ble_eq_true rfl) ⟨Nat.le_of_ble_eq_true rfl, Nat.le_of_ble_eq_true rfl⟩ rfl ?_
            refine lv_i2l (v := ((fX2_monthsOf p2).toInt64)) hx hb dX2_betweenNow_155 (by first | rfl | decide) ?_
            refine lv_ldiv hx hb dX2_betweenNow_156 (nz_monthsOf p2) ?_
            obtain ⟨k9_157, d9_157, hs9_157⟩ := SS_of ((-(fX2_monthsBack T p0 p1)) / ((fX2_monthsOf p2).toInt64))
            have hP9 : va_P (gD G) vwCl ((wM G b T) ++ [(q137, .inr (1, [.ref v9_146, .int 0, .int 0, .int (nI 0)])), (v9_146, .inl (gC G 2, m9_146, .inl f9_146))]) _ := hP
            have hD9 : va_D A ((wM G b T) ++ [(q137, .inr (1, [.ref v9_146, .int 0, .int 0, .int (nI 0)])), (v9_146, .inl (gC G 2, m9_146, .inl f9_146))]) := hD
            refine weVf (wr := (wM G b T)) (wd := [(q137, .inr (1, [.ref v9_146, .int 0, .int 0, .int (nI 0)])), (v9_146, .inl (gC G 2, m9_146, .inl f9_146))]) (as := [.long ((-(fX2_monthsBack T p0 p1)) / ((fX2_monthsOf p2).toInt64))]) (rest := []) (cl := RJ4) C (s_appL l G q137 v9_146 m9_146 k9_157 d9_157 f9_146 ((-(fX2_monthsBack T p0 p1)) / ((fX2_monthsOf p2).toInt64)) hm9_146 hf9_146 hs9_157) F_J4_append_f7089 rfl bw1513 bw1514 (hw _ bw1515) (hE.S hS hAB) hP9 hD9 hS hA hAB (rv1 hE.K hP (q0 := 5) rfl) hl.1 dX2_betweenNow_157 ⟨Nat.le_of_ble_eq_true rfl, Nat.le_of_ble_eq_true rfl⟩ rfl (Nat.le_of_ble_eq_true rfl) ⟨Nat.le_of_ble_eq_true rfl, Nat.le_of_ble_eq_true rfl⟩ (fun r9 wd9 H locs hp9 hP hD hS => ?_)
            obtain ⟨rfl, v9_157, m9_157, f9_157, rfl, hm9_157, hle9_157, hf9_157⟩ := hp9
            have hP : va_P (gD G) vwCl ((wM G b T) ++ [(q137, .inr (1, [.ref v9_157, .int 0, .int 0, .int (nI (k9_157 + d9_157))])), (v9_157, .inl (gC G 2, m9_157, .inl f9_157))]) H := hP
            have hD : va_D A ((wM G b T) ++ [(q137, .inr (1, [.ref v9_157, .int 0, .int 0, .int (nI (k9_157 + d9_157))])), (v9_157, .inl (gC G 2, m9_157, .inl f9_157))]) := hD
            refine W.eq (g2 := F0 m 160 ls [.ref q137]) rfl ?_
            have hP9 : va_P (gD G) vwCl ((wM G b T) ++ [(q137, .inr (1, [.ref v9_157, .int 0, .int 0, .int (nI (k9_157 + d9_157))])), (v9_157, .inl (gC G 2, m9_157, .inl f9_157))]) _ := hP
            have hD9 : va_D A ((wM G b T) ++ [(q137, .inr (1, [.ref v9_157, .int 0, .int 0, .int (nI (k9_157 + d9_157))])), (v9_157, .inl (gC G 2, m9_157, .inl f9_157))]) := hD
            refine weVf (wr := (wM G b T)) (wd := [(q137, .inr (1, [.ref v9_157, .int 0, .int 0, .int (nI (k9_157 + d9_157))])), (v9_157, .inl (gC G 2, m9_157, .inl f9_157))]) (as := []) (rest := []) (cl := RJ4) C (s_toString l G q137 v9_157 m9_157 (k9_157 + d9_157) f9_157 (mOK.lt hm9_157) hle9_157 hf9_157) F_J4_toString_0e30d rfl bw1540 bw943 (hw _ bw944) (hE.S hS hAB) hP9 hD9 hS hA hAB (rv1 hE.K hP (q0 := 5) rfl) hl.1 dX2_betweenNow_160 ⟨Nat.le_of_ble_eq_true rfl, Nat.le_of_ble_eq_true rfl⟩ rfl (Nat.le_of_ble_eq_true rfl) ⟨Nat.le_of_ble_eq_true rfl, Nat.le_of_ble_eq_true rfl⟩ (fun r9 wd9 H locs hp9 hP hD hS => ?_)
            obtain ⟨q9_160, u9_160, f9_160, rfl, rfl⟩ := hp9
            have hP : va_P (gD G) vwCl ((wM G b T) ++ [(q9_160, .inr (0, [.ref u9_160, .int 0, .int 0, .int 0])), (u9_160, .inl (gC G 2, (k9_157 + d9_157), .inl f9_160))]) H := hP
            have hD : va_D A ((wM G b T) ++ [(q9_160, .inr (0, [.ref u9_160, .int 0, .int 0, .int 0])), (u9_160, .inl (gC G 2, (k9_157 + d9_157), .inl f9_160))]) := hD
            refine W.eq (g2 := F0 m 163 ls [.ref q9_160]) rfl ?_
            exact weA hx hb hr (Or.inl ⟨_, rfl⟩) hk ⟨⟨_, rfl⟩, (congrArg (wM G b) (show gX2_betweenNow T p0 p1 p2 = T from (Eq.trans (if_neg c_1) (Eq.trans (if_neg c_2) (Eq.trans (if_neg c_3) (Eq.trans (if_pos c_4) (if_pos c_5)))))).symm)⟩ (show va_P (gD G) vwCl (wM G b T) _ from hP.sub [0, 1, 2, 3, 4] rfl) (show va_D A (wM G b T) from hD.sub [0, 1, 2, 3, 4] (by decide) rfl) hS (Nat.le_of_ble_eq_true rfl) (Nat.le_of_ble_eq_true rfl) dX2_betweenNow_163
          · refine lv_aload_n hx hb dX2_betweenNow_119 rfl (lv_at hl 1 rfl) ?_
            refine lv_iload_n hx hb dX2_betweenNow_120 rfl (lv_at hl 2 rfl) ?_
            refine lv_iload_n hx hb dX2_betweenNow_121 rfl (lv_at hl 3 rfl) ?_
            refine rcVl (as := [.int p0, .int p1]) (rest := []) (cl := RX2) C (c_X2_monthsOn l G b T p0 p1 h0 h1) F_X2_monthsOn rfl bw1588 bw1590 bw51 (hE.S hS hAB) hP (rv4 hE.K hP (q0 := 0) rfl) hl.1 dX2_betweenNow_122 ⟨Nat.le_of_ble_eq_true rfl, Nat.le_of_ble_eq_true rfl⟩ rfl (Nat.le_of_ble_eq_true rfl) ⟨Nat.le_of_ble_eq_true rfl, Nat.le_of_ble_eq_true rfl⟩ ?_
            refine lv_goto (tgt := 135) hx hb dX2_betweenNow_125 (by decide) ?_
            refine lv_lstore (lv' := [(5, .long (fX2_monthsOn T p0 p1)), (4, .int (0 : Int32)), (0, .ref (b 0)), (1, .int p0), (2, .int p1), (3, .int p2)]) hx hb dX2_betweenNow_135 hl (Nat.le_of_ble_eq_true rfl) rfl (fun ls hl => ?_)
            refine va_new (cl := vwCl) (tys := gT G) (ci := 1) (fs := [.null, .int 0, .int 0, .int 0]) (C := RJ4) (T := TJ4) (N := 4) hx hb hw inB_J4 tyJ4 tyJ4_ok hown (hw _ bw1510) (hw _ bw778) (hw _ bw67) hE.K hP hD hS hA rfl (fun j hj => by rcases (show j = 0 ∨ j = 1 ∨ j = 2 ∨ j = 3 by omega) with rfl | rfl | rfl | rfl <;> rfl) (Nat.le_of_ble_eq_true rfl) (Nat.le_of_ble_eq_true rfl) dX2_betweenNow_137 (fun q137 H hP hD hS => ?_)
            have hP : va_P (gD G) vwCl ((wM G b T) ++ [(q137, .inr (1, [.null, .int 0, .int 0, .int 0]))]) H := hP
            have hD : va_D A ((wM G b T) ++ [(q137, .inr (1, [.null, .int 0, .int 0, .int 0]))]) := hD
            refine lv_dup hx hb dX2_betweenNow_140 rfl ?_
            have hP9 : va_P (gD G) vwCl ((wM G b T) ++ [(q137, .inr (1, [.null, .int 0, .int 0, .int 0]))]) _ := hP
            have hD9 : va_D A ((wM G b T) ++ [(q137, .inr (1, [.null, .int 0, .int 0, .int 0]))]) := hD
            refine weI (wr := (wM G b T)) (wd := [(q137, .inr (1, [.null, .int 0, .int 0, .int 0]))]) (as := []) (rest := [.ref q137]) C (i_J4_init_da8c8 l G q137) F_J4_init_da8c8 rfl bw1511 bw780 rfl (hE.S hS hAB) hP9 hD9 hS hA hAB hl.1 dX2_betweenNow_141 ⟨Nat.le_of_ble_eq_true rfl, Nat.le_of_ble_eq_true rfl⟩ rfl (Nat.le_of_ble_eq_true rfl) ⟨Nat.le_of_ble_eq_true rfl, Nat.le_of_ble_eq_true rfl⟩ (fun r9 wd9 H locs hp9 hP hD hS => ?_)
            obtain ⟨rfl, v9_141, rfl⟩ := hp9
            have hP : va_P (gD G) vwCl ((wM G b T) ++ [(q137, .inr (1, [.ref v9_141, .int 0, .int 0, .int (nI 0)])), (v9_141, .inl (gC G 2, 16, .inl (fun _ => 0)))]) H := hP
            have hD : va_D A ((wM G b T) ++ [(q137, .inr (1, [.ref v9_141, .int 0, .int 0, .int (nI 0)])), (v9_141, .inl (gC G 2, 16, .inl (fun _ => 0)))]) := hD
            refine W.eq (g2 := F0 m 144 ls [.ref q137]) rfl ?_
            refine va_ldcS hx hb hown hE.1.2.2.2.2.1 dX2_betweenNow_144 ?_
            have hP9 : va_P (gD G) vwCl ((wM G b T) ++ [(q137, .inr (1, [.ref v9_141, .int 0, .int 0, .int (nI 0)])), (v9_141, .inl (gC G 2, 16, .inl (fun _ => 0)))]) _ := hP
            have hD9 : va_D A ((wM G b T) ++ [(q137, .inr (1, [.ref v9_141, .int 0, .int 0, .int (nI 0)])), (v9_141, .inl (gC G 2, 16, .inl (fun _ => 0)))]) := hD
            refine weVf (wr := (wM G b T)) (wd := [(q137, .inr (1, [.ref v9_141, .int 0, .int 0, .int (nI 0)])), (v9_141, .inl (gC G 2, 16, .inl (fun _ => 0)))]) (as := [.ref (ga G 6)]) (rest := []) (cl := RJ4) C (s_appS l G q137 v9_141 16 (fun _ => 0) (Or.inl rfl) sb_fit0) F_J4_append_15ec4 rfl bw1512 bw1014 (hw _ bw1015) (hE.S hS hAB) hP9 hD9 hS hA hAB (rv1 hE.K hP (q0 := 5) rfl) hl.1 dX2_betweenNow_146 ⟨Nat.le_of_ble_eq_true rfl, Nat.le_of_ble_eq_true rfl⟩ rfl (Nat.le_of_ble_eq_true rfl) ⟨Nat.le_of_ble_eq_true rfl, Nat.le_of_ble_eq_true rfl⟩ (fun r9 wd9 H locs hp9 hP hD hS => ?_)
            obtain ⟨rfl, v9_146, m9_146, f9_146, rfl, hm9_146, hle9_146, hf9_146⟩ := hp9
            have hP : va_P (gD G) vwCl ((wM G b T) ++ [(q137, .inr (1, [.ref v9_146, .int 0, .int 0, .int (nI 0)])), (v9_146, .inl (gC G 2, m9_146, .inl f9_146))]) H := hP
            have hD : va_D A ((wM G b T) ++ [(q137, .inr (1, [.ref v9_146, .int 0, .int 0, .int (nI 0)])), (v9_146, .inl (gC G 2, m9_146, .inl f9_146))]) := hD
            refine W.eq (g2 := F0 m 149 ls [.ref q137]) rfl ?_
            refine lv_lload hx hb dX2_betweenNow_149 (lv_at hl 0 rfl) ?_
            refine lv_iload_n hx hb dX2_betweenNow_151 rfl (lv_at hl 5 rfl) ?_
            refine rcSf (st1 := [.int (fX2_monthsOf p2), .long (fX2_monthsOn T p0 p1), .ref q137]) (as := [.int p2]) (rest := [.long (fX2_monthsOn T p0 p1), .ref q137]) C (c_X2_monthsOf l G p2) F_X2_monthsOf rfl bw1445 bw1446 (hE.S hS hAB) vpn hl.1 dX2_betweenNow_152 ⟨Nat.le_of_ble_eq_true rfl, Nat.le_of_ble_eq_true rfl⟩ rfl (Nat.le_of_ble_eq_true rfl) ⟨Nat.le_of_ble_eq_true rfl, Nat.le_of_ble_eq_true rfl⟩ rfl ?_
            refine lv_i2l (v := ((fX2_monthsOf p2).toInt64)) hx hb dX2_betweenNow_155 (by first | rfl | decide) ?_
            refine lv_ldiv hx hb dX2_betweenNow_156 (nz_monthsOf p2) ?_
            obtain ⟨k9_157, d9_157, hs9_157⟩ := SS_of ((fX2_monthsOn T p0 p1) / ((fX2_monthsOf p2).toInt64))
            have hP9 : va_P (gD G) vwCl ((wM G b T) ++ [(q137, .inr (1, [.ref v9_146, .int 0, .int 0, .int (nI 0)])), (v9_146, .inl (gC G 2, m9_146, .inl f9_146))]) _ := hP
            have hD9 : va_D A ((wM G b T) ++ [(q137, .inr (1, [.ref v9_146, .int 0, .int 0, .int (nI 0)])), (v9_146, .inl (gC G 2, m9_146, .inl f9_146))]) := hD
            refine weVf (wr := (wM G b T)) (wd := [(q137, .inr (1, [.ref v9_146, .int 0, .int 0, .int (nI 0)])), (v9_146, .inl (gC G 2, m9_146, .inl f9_146))]) (as := [.long ((fX2_monthsOn T p0 p1) / ((fX2_monthsOf p2).toInt64))]) (rest := []) (cl := RJ4) C (s_appL l G q137 v9_146 m9_146 k9_157 d9_157 f9_146 ((fX2_monthsOn T p0 p1) / ((fX2_monthsOf p2).toInt64)) hm9_146 hf9_146 hs9_157) F_J4_append_f7089 rfl bw1513 bw1514 (hw _ bw1515) (hE.S hS hAB) hP9 hD9 hS hA hAB (rv1 hE.K hP (q0 := 5) rfl) hl.1 dX2_betweenNow_157 ⟨Nat.le_of_ble_eq_true rfl, Nat.le_of_ble_eq_true rfl⟩ rfl (Nat.le_of_ble_eq_true rfl) ⟨Nat.le_of_ble_eq_true rfl, Nat.le_of_ble_eq_true rfl⟩ (fun r9 wd9 H locs hp9 hP hD hS => ?_)
            obtain ⟨rfl, v9_157, m9_157, f9_157, rfl, hm9_157, hle9_157, hf9_157⟩ := hp9
            have hP : va_P (gD G) vwCl ((wM G b T) ++ [(q137, .inr (1, [.ref v9_157, .int 0, .int 0, .int (nI (k9_157 + d9_157))])), (v9_157, .inl (gC G 2, m9_157, .inl f9_157))]) H := hP
            have hD : va_D A ((wM G b T) ++ [(q137, .inr (1, [.ref v9_157, .int 0, .int 0, .int (nI (k9_157 + d9_157))])), (v9_157, .inl (gC G 2, m9_157, .inl f9_157))]) := hD
            refine W.eq (g2 := F0 m 160 ls [.ref q137]) rfl ?_
            have hP9 : va_P (gD G) vwCl ((wM G b T) ++ [(q137, .inr (1, [.ref v9_157, .int 0, .int 0, .int (nI (k9_157 + d9_157))])), (v9_157, .inl (gC G 2, m9_157, .inl f9_157))]) _ := hP
            have hD9 : va_D A ((wM G b T) ++ [(q137, .inr (1, [.ref v9_157, .int 0, .int 0, .int (nI (k9_157 + d9_157))])), (v9_157, .inl (gC G 2, m9_157, .inl f9_157))]) := hD
            refine weVf (wr := (wM G b T)) (wd := [(q137, .inr (1, [.ref v9_157, .int 0, .int 0, .int (nI (k9_157 + d9_157))])), (v9_157, .inl (gC G 2, m9_157, .inl f9_157))]) (as := []) (rest := []) (cl := RJ4) C (s_toString l G q137 v9_157 m9_157 (k9_157 + d9_157) f9_157 (mOK.lt hm9_157) hle9_157 hf9_157) F_J4_toString_0e30d rfl bw1540 bw943 (hw _ bw944) (hE.S hS hAB) hP9 hD9 hS hA hAB (rv1 hE.K hP (q0 := 5) rfl) hl.1 dX2_betweenNow_160 ⟨Nat.le_of_ble_eq_true rfl, Nat.le_of_ble_eq_true rfl⟩ rfl (Nat.le_of_ble_eq_true rfl) ⟨Nat.le_of_ble_eq_true rfl, Nat.le_of_ble_eq_true rfl⟩ (fun r9 wd9 H locs hp9 hP hD hS => ?_)
            obtain ⟨q9_160, u9_160, f9_160, rfl, rfl⟩ := hp9
            have hP : va_P (gD G) vwCl ((wM G b T) ++ [(q9_160, .inr (0, [.ref u9_160, .int 0, .int 0, .int 0])), (u9_160, .inl (gC G 2, (k9_157 + d9_157), .inl f9_160))]) H := hP
            have hD : va_D A ((wM G b T) ++ [(q9_160, .inr (0, [.ref u9_160, .int 0, .int 0, .int 0])), (u9_160, .inl (gC G 2, (k9_157 + d9_157), .inl f9_160))]) := hD
            refine W.eq (g2 := F0 m 163 ls [.ref q9_160]) rfl ?_
            exact weA hx hb hr (Or.inl ⟨_, rfl⟩) hk ⟨⟨_, rfl⟩, (congrArg (wM G b) (show gX2_betweenNow T p0 p1 p2 = T from (Eq.trans (if_neg c_1) (Eq.trans (if_neg c_2) (Eq.trans (if_neg c_3) (Eq.trans (if_pos c_4) (if_neg c_5)))))).symm)⟩ (show va_P (gD G) vwCl (wM G b T) _ from hP.sub [0, 1, 2, 3, 4] rfl) (show va_D A (wM G b T) from hD.sub [0, 1, 2, 3, 4] (by decide) rfl) hS (Nat.le_of_ble_eq_true rfl) (Nat.le_of_ble_eq_true rfl) dX2_betweenNow_163
        · refine lv_aload_n hx hb dX2_betweenNow_65 rfl (lv_at hl 1 rfl) ?_
          refine lv_dup hx hb dX2_betweenNow_66 rfl ?_
          refine va_get (D := gD G) (cl := vwCl) (tys := gT G) (ci := 4) (v := .int (mi T 5)) (C := RX2) (T := TX2) (N := 12) hx hb hw inB_X2 hown hE.K hP 0 rfl rfl 10 (by decide) (hw _ bw1173) (fun _ h9 => h9) rfl dX2_betweenNow_67 ?_
          refine lv_iconst (v := (1 : Int32)) hx hb dX2_betweenNow_70 (by decide) ?_
          refine lv_iadd hx hb dX2_betweenNow_71 ?_
          refine va_put (D := gD G) (cl := vwCl) (tys := gT G) (ci := 4) (v := .int ((mi T 5) + (1 : Int32))) (ty := .int) (C := RX2) (T := TX2) (N := 12) hx hb hw inB_X2 tyX2 tyX2_ok nmX2 hown hE.K hP hD hS 0 rfl rfl 10 (by decide) (hw _ bw1173) (fun _ h9 => h9) rfl (by decide +kernel) rfl rfl (Nat.le_of_ble_eq_true rfl) dX2_betweenNow_72 (fun H locs hP hD hS => ?_)
          have hP : va_P (gD G) vwCl (wM G b ((mth T), (my T), (mm T), (md T), (mt T), (upd (T.2.2.2.2.2) 5 ((mi T 5) + (1 : Int32))))) H := hP
          have hD : va_D A (wM G b ((mth T), (my T), (mm T), (md T), (mt T), (upd (T.2.2.2.2.2) 5 ((mi T 5) + (1 : Int32))))) := hD
          refine va_ldcS hx hb hown hE.1.2.2.2.2.2.1 dX2_betweenNow_75 ?_
          exact weA hx hb hr (Or.inl ⟨_, rfl⟩) hk ⟨⟨_, rfl⟩, (congrArg (wM G b) (show gX2_betweenNow T p0 p1 p2 = ((mth T), (my T), (mm T), (md T), (mt T), (upd (T.2.2.2.2.2) 5 ((mi T 5) + (1 : Int32)))) from (Eq.trans (if_neg c_1) (Eq.trans (if_neg c_2) (Eq.trans (if_neg c_3) (if_neg c_4))))).symm)⟩ hP hD hS (Nat.le_of_ble_eq_true rfl) (Nat.le_of_ble_eq_true rfl) dX2_betweenNow_77
  · refine lv_aload_n hx hb dX2_betweenNow_4 rfl (lv_at hl 0 rfl) ?_
    refine lv_iload_n hx hb dX2_betweenNow_5 rfl (lv_at hl 1 rfl) ?_
    refine rcVl (as := [.int p0]) (rest := []) (cl := RX2) C (c_X2_dayNow l G b T p0 h0 hT) F_X2_dayNow rfl bw1247 bw1249 bw38 (hE.S hS hAB) hP (rv4 hE.K hP (q0 := 0) rfl) hl.1 dX2_betweenNow_6 ⟨Nat.le_of_ble_eq_true rfl, Nat.le_of_ble_eq_true rfl⟩ rfl (Nat.le_of_ble_eq_true rfl) ⟨Nat.le_of_ble_eq_true rfl, Nat.le_of_ble_eq_true rfl⟩ ?_
    refine lv_aload_n hx hb dX2_betweenNow_9 rfl (lv_at hl 0 rfl) ?_
    refine lv_iload_n hx hb dX2_betweenNow_10 rfl (lv_at hl 2 rfl) ?_
    refine rcVl (as := [.int p1]) (rest := [.long (fX2_dayNow T p0)]) (cl := RX2) C (c_X2_dayNow l G b T p1 h1 hT) F_X2_dayNow rfl bw1247 bw1249 bw38 (hE.S hS hAB) hP (rv4 hE.K hP (q0 := 0) rfl) hl.1 dX2_betweenNow_11 ⟨Nat.le_of_ble_eq_true rfl, Nat.le_of_ble_eq_true rfl⟩ rfl (Nat.le_of_ble_eq_true rfl) ⟨Nat.le_of_ble_eq_true rfl, Nat.le_of_ble_eq_true rfl⟩ ?_
    refine lv_lsub hx hb dX2_betweenNow_14 ?_
    refine rcSl (as := [.long ((fX2_dayNow T p0) - (fX2_dayNow T p1))]) (rest := []) C (c_J9_abs_067f4 l G ((fX2_dayNow T p0) - (fX2_dayNow T p1))) F_J9_abs_067f4 rfl bw1581 bw810 (hE.S hS hAB) vpn hl.1 dX2_betweenNow_15 ⟨Nat.le_of_ble_eq_true rfl, Nat.le_of_ble_eq_true rfl⟩ rfl (Nat.le_of_ble_eq_true rfl) ⟨Nat.le_of_ble_eq_true rfl, Nat.le_of_ble_eq_true rfl⟩ ?_
    refine lv_ldc2 (v := (100000 : Int64)) hx hb hown (hw _ bw1582) dX2_betweenNow_18 ?_
    refine W.lcmp hx hb dX2_betweenNow_21 ?_
    refine k_dia (b := (lg_cmp (fJ9_abs_067f4 ((fX2_dayNow T p0) - (fX2_dayNow T p1))) (100000 : Int64)) ≤ 0) (x := (0 : Int32)) (y := (1 : Int32)) (Wg := fun z9 => W _ _ _ _ _ _ _ _ _ _ _ _ _ _ _ (F0 m 30 ls (.int z9 :: _))) ?_ (fun t9 f9 => lv_if_le (tgt := 29) hx hb dX2_betweenNow_22 (by decide) (fun c_x => lv_iconst (v := (0 : Int32)) hx hb dX2_betweenNow_29 (by decide) (t9 c_x)) (fun c_x => lv_iconst (v := (1 : Int32)) hx hb dX2_betweenNow_25 (by decide) (lv_goto (tgt := 30) hx hb dX2_betweenNow_26 (by decide) (f9 c_x))))
    refine lv_istore (lv' := [(4, .int (if (lg_cmp (fJ9_abs_067f4 ((fX2_dayNow T p0) - (fX2_dayNow T p1))) (100000 : Int64)) ≤ 0 then (0 : Int32) else (1 : Int32))), (0, .ref (b 0)), (1, .int p0), (2, .int p1), (3, .int p2)]) hx hb dX2_betweenNow_30 hl (Nat.le_of_ble_eq_true rfl) rfl (fun ls hl => ?_)
    refine lv_iload hx hb dX2_betweenNow_32 (lv_at hl 0 rfl) ?_
    refine lv_if_ne (tgt := 65) hx hb dX2_betweenNow_34 (by decide) (fun c_6 => ?_) (fun c_6 => ?_)
    · refine lv_aload_n hx hb dX2_betweenNow_65 rfl (lv_at hl 1 rfl) ?_
      refine lv_dup hx hb dX2_betweenNow_66 rfl ?_
      refine va_get (D := gD G) (cl := vwCl) (tys := gT G) (ci := 4) (v := .int (mi T 5)) (C := RX2) (T := TX2) (N := 12) hx hb hw inB_X2 hown hE.K hP 0 rfl rfl 10 (by decide) (hw _ bw1173) (fun _ h9 => h9) rfl dX2_betweenNow_67 ?_
      refine lv_iconst (v := (1 : Int32)) hx hb dX2_betweenNow_70 (by decide) ?_
      refine lv_iadd hx hb dX2_betweenNow_71 ?_
      refine va_put (D := gD G) (cl := vwCl) (tys := gT G) (ci := 4) (v := .int ((mi T 5) + (1 : Int32))) (ty := .int) (C := RX2) (T := TX2) (N := 12) hx hb hw inB_X2 tyX2 tyX2_ok nmX2 hown hE.K hP hD hS 0 rfl rfl 10 (by decide) (hw _ bw1173) (fun _ h9 => h9) rfl (by decide +kernel) rfl rfl (Nat.le_of_ble_eq_true rfl) dX2_betweenNow_72 (fun H locs hP hD hS => ?_)
      have hP : va_P (gD G) vwCl (wM G b ((mth T), (my T), (mm T), (md T), (mt T), (upd (T.2.2.2.2.2) 5 ((mi T 5) + (1 : Int32))))) H := hP
      have hD : va_D A (wM G b ((mth T), (my T), (mm T), (md T), (mt T), (upd (T.2.2.2.2.2) 5 ((mi T 5) + (1 : Int32))))) := hD
      refine va_ldcS hx hb hown hE.1.2.2.2.2.2.1 dX2_betweenNow_75 ?_
      exact weA hx hb hr (Or.inl ⟨_, rfl⟩) hk ⟨⟨_, rfl⟩, (congrArg (wM G b) (show gX2_betweenNow T p0 p1 p2 = ((mth T), (my T), (mm T), (md T), (mt T), (upd (T.2.2.2.2.2) 5 ((mi T 5) + (1 : Int32)))) from (Eq.trans (if_pos c_1) (if_neg c_6))).symm)⟩ hP hD hS (Nat.le_of_ble_eq_true rfl) (Nat.le_of_ble_eq_true rfl) dX2_betweenNow_77
    · refine lv_iload_n hx hb dX2_betweenNow_37 rfl (lv_at hl 4 rfl) ?_
      refine lv_bipush (v := (8 : Int32)) hx hb dX2_betweenNow_38 (by decide) ?_
      refine lv_icmp_le (tgt := 78) hx hb dX2_betweenNow_40 (by decide) (fun _ => ?_) (fun c_x => absurd (by rw [c_1]; decide) c_x)
      refine lv_iload_n hx hb dX2_betweenNow_78 rfl (lv_at hl 4 rfl) ?_
      refine lv_bipush (v := (9 : Int32)) hx hb dX2_betweenNow_79 (by decide) ?_
      refine lv_icmp_ge (tgt := 110) hx hb dX2_betweenNow_81 (by decide) (fun c_x => absurd c_x (by rw [c_1]; decide)) (fun _ => ?_)
      refine va_new (cl := vwCl) (tys := gT G) (ci := 1) (fs := [.null, .int 0, .int 0, .int 0]) (C := RJ4) (T := TJ4) (N := 4) hx hb hw inB_J4 tyJ4 tyJ4_ok hown (hw _ bw1510) (hw _ bw778) (hw _ bw67) hE.K hP hD hS hA rfl (fun j hj => by rcases (show j = 0 ∨ j = 1 ∨ j = 2 ∨ j = 3 by omega) with rfl | rfl | rfl | rfl <;> rfl) (Nat.le_of_ble_eq_true rfl) (Nat.le_of_ble_eq_true rfl) dX2_betweenNow_84 (fun q84 H hP hD hS => ?_)
      have hP : va_P (gD G) vwCl ((wM G b T) ++ [(q84, .inr (1, [.null, .int 0, .int 0, .int 0]))]) H := hP
      have hD : va_D A ((wM G b T) ++ [(q84, .inr (1, [.null, .int 0, .int 0, .int 0]))]) := hD
      refine lv_dup hx hb dX2_betweenNow_87 rfl ?_
      have hP9 : va_P (gD G) vwCl ((wM G b T) ++ [(q84, .inr (1, [.null, .int 0, .int 0, .int 0]))]) _ := hP
      have hD9 : va_D A ((wM G b T) ++ [(q84, .inr (1, [.null, .int 0, .int 0, .int 0]))]) := hD
      refine weI (wr := (wM G b T)) (wd := [(q84, .inr (1, [.null, .int 0, .int 0, .int 0]))]) (as := []) (rest := [.ref q84]) C (i_J4_init_da8c8 l G q84) F_J4_init_da8c8 rfl bw1511 bw780 rfl (hE.S hS hAB) hP9 hD9 hS hA hAB hl.1 dX2_betweenNow_88 ⟨Nat.le_of_ble_eq_true rfl, Nat.le_of_ble_eq_true rfl⟩ rfl (Nat.le_of_ble_eq_true rfl) ⟨Nat.le_of_ble_eq_true rfl, Nat.le_of_ble_eq_true rfl⟩ (fun r9 wd9 H locs hp9 hP hD hS => ?_)
      obtain ⟨rfl, v9_88, rfl⟩ := hp9
      have hP : va_P (gD G) vwCl ((wM G b T) ++ [(q84, .inr (1, [.ref v9_88, .int 0, .int 0, .int (nI 0)])), (v9_88, .inl (gC G 2, 16, .inl (fun _ => 0)))]) H := hP
      have hD : va_D A ((wM G b T) ++ [(q84, .inr (1, [.ref v9_88, .int 0, .int 0, .int (nI 0)])), (v9_88, .inl (gC G 2, 16, .inl (fun _ => 0)))]) := hD
      refine W.eq (g2 := F0 m 91 ls [.ref q84]) rfl ?_
      refine va_ldcS hx hb hown hE.1.2.2.2.2.1 dX2_betweenNow_91 ?_
      have hP9 : va_P (gD G) vwCl ((wM G b T) ++ [(q84, .inr (1, [.ref v9_88, .int 0, .int 0, .int (nI 0)])), (v9_88, .inl (gC G 2, 16, .inl (fun _ => 0)))]) _ := hP
      have hD9 : va_D A ((wM G b T) ++ [(q84, .inr (1, [.ref v9_88, .int 0, .int 0, .int (nI 0)])), (v9_88, .inl (gC G 2, 16, .inl (fun _ => 0)))]) := hD
      refine weVf (wr := (wM G b T)) (wd := [(q84, .inr (1, [.ref v9_88, .int 0, .int 0, .int (nI 0)])), (v9_88, .inl (gC G 2, 16, .inl (fun _ => 0)))]) (as := [.ref (ga G 6)]) (rest := []) (cl := RJ4) C (s_appS l G q84 v9_88 16 (fun _ => 0) (Or.inl rfl) sb_fit0) F_J4_append_15ec4 rfl bw1512 bw1014 (hw _ bw1015) (hE.S hS hAB) hP9 hD9 hS hA hAB (rv1 hE.K hP (q0 := 5) rfl) hl.1 dX2_betweenNow_93 ⟨Nat.le_of_ble_eq_true rfl, Nat.le_of_ble_eq_true rfl⟩ rfl (Nat.le_of_ble_eq_true rfl) ⟨Nat.le_of_ble_eq_true rfl, Nat.le_of_ble_eq_true rfl⟩ (fun r9 wd9 H locs hp9 hP hD hS => ?_)
      obtain ⟨rfl, v9_93, m9_93, f9_93, rfl, hm9_93, hle9_93, hf9_93⟩ := hp9
      have hP : va_P (gD G) vwCl ((wM G b T) ++ [(q84, .inr (1, [.ref v9_93, .int 0, .int 0, .int (nI 0)])), (v9_93, .inl (gC G 2, m9_93, .inl f9_93))]) H := hP
      have hD : va_D A ((wM G b T) ++ [(q84, .inr (1, [.ref v9_93, .int 0, .int 0, .int (nI 0)])), (v9_93, .inl (gC G 2, m9_93, .inl f9_93))]) := hD
      refine W.eq (g2 := F0 m 96 ls [.ref q84]) rfl ?_
      refine lv_aload_n hx hb dX2_betweenNow_96 rfl (lv_at hl 1 rfl) ?_
      refine lv_iload_n hx hb dX2_betweenNow_97 rfl (lv_at hl 2 rfl) ?_
      refine lv_iload_n hx hb dX2_betweenNow_98 rfl (lv_at hl 3 rfl) ?_
      refine lv_iload_n hx hb dX2_betweenNow_99 rfl (lv_at hl 4 rfl) ?_
      refine rcVf (st1 := [.long (fX2_lineBetween T p0 p1 p2), .ref q84]) (as := [.int p0, .int p1, .int p2]) (rest := [.ref q84]) (cl := RX2) C (c_X2_lineBetween l G b T p0 p1 p2 h0 h1 hT) F_X2_lineBetween rfl bw1584 bw1586 (hw _ bw50) (hE.S hS hAB) (show va_P (gD G) vwCl (wM G b T) _ from hP.sub [0, 1, 2, 3, 4] rfl) (rv4 hE.K hP (q0 := 0) rfl) hl.1 dX2_betweenNow_100 ⟨Nat.le_of_ble_eq_true rfl, Nat.le_of_ble_eq_true rfl⟩ rfl (Nat.le_of_ble_eq_true rfl) ⟨Nat.le_of_ble_eq_true rfl, Nat.le_of_ble_eq_true rfl⟩ rfl ?_
      obtain ⟨k9_103, d9_103, hs9_103⟩ := SS_of (fX2_lineBetween T p0 p1 p2)
      have hP9 : va_P (gD G) vwCl ((wM G b T) ++ [(q84, .inr (1, [.ref v9_93, .int 0, .int 0, .int (nI 0)])), (v9_93, .inl (gC G 2, m9_93, .inl f9_93))]) _ := hP
      have hD9 : va_D A ((wM G b T) ++ [(q84, .inr (1, [.ref v9_93, .int 0, .int 0, .int (nI 0)])), (v9_93, .inl (gC G 2, m9_93, .inl f9_93))]) := hD
      refine weVf (wr := (wM G b T)) (wd := [(q84, .inr (1, [.ref v9_93, .int 0, .int 0, .int (nI 0)])), (v9_93, .inl (gC G 2, m9_93, .inl f9_93))]) (as := [.long (fX2_lineBetween T p0 p1 p2)]) (rest := []) (cl := RJ4) C (s_appL l G q84 v9_93 m9_93 k9_103 d9_103 f9_93 (fX2_lineBetween T p0 p1 p2) hm9_93 hf9_93 hs9_103) F_J4_append_f7089 rfl bw1513 bw1514 (hw _ bw1515) (hE.S hS hAB) hP9 hD9 hS hA hAB (rv1 hE.K hP (q0 := 5) rfl) hl.1 dX2_betweenNow_103 ⟨Nat.le_of_ble_eq_true rfl, Nat.le_of_ble_eq_true rfl⟩ rfl (Nat.le_of_ble_eq_true rfl) ⟨Nat.le_of_ble_eq_true rfl, Nat.le_of_ble_eq_true rfl⟩ (fun r9 wd9 H locs hp9 hP hD hS => ?_)
      obtain ⟨rfl, v9_103, m9_103, f9_103, rfl, hm9_103, hle9_103, hf9_103⟩ := hp9
      have hP : va_P (gD G) vwCl ((wM G b T) ++ [(q84, .inr (1, [.ref v9_103, .int 0, .int 0, .int (nI (k9_103 + d9_103))])), (v9_103, .inl (gC G 2, m9_103, .inl f9_103))]) H := hP
      have hD : va_D A ((wM G b T) ++ [(q84, .inr (1, [.ref v9_103, .int 0, .int 0, .int (nI (k9_103 + d9_103))])), (v9_103, .inl (gC G 2, m9_103, .inl f9_103))]) := hD
      refine W.eq (g2 := F0 m 106 ls [.ref q84]) rfl ?_
      have hP9 : va_P (gD G) vwCl ((wM G b T) ++ [(q84, .inr (1, [.ref v9_103, .int 0, .int 0, .int (nI (k9_103 + d9_103))])), (v9_103, .inl (gC G 2, m9_103, .inl f9_103))]) _ := hP
      have hD9 : va_D A ((wM G b T) ++ [(q84, .inr (1, [.ref v9_103, .int 0, .int 0, .int (nI (k9_103 + d9_103))])), (v9_103, .inl (gC G 2, m9_103, .inl f9_103))]) := hD
      refine weVf (wr := (wM G b T)) (wd := [(q84, .inr (1, [.ref v9_103, .int 0, .int 0, .int (nI (k9_103 + d9_103))])), (v9_103, .inl (gC G 2, m9_103, .inl f9_103))]) (as := []) (rest := []) (cl := RJ4) C (s_toString l G q84 v9_103 m9_103 (k9_103 + d9_103) f9_103 (mOK.lt hm9_103) hle9_103 hf9_103) F_J4_toString_0e30d rfl bw1540 bw943 (hw _ bw944) (hE.S hS hAB) hP9 hD9 hS hA hAB (rv1 hE.K hP (q0 := 5) rfl) hl.1 dX2_betweenNow_106 ⟨Nat.le_of_ble_eq_true rfl, Nat.le_of_ble_eq_true rfl⟩ rfl (Nat.le_of_ble_eq_true rfl) ⟨Nat.le_of_ble_eq_true rfl, Nat.le_of_ble_eq_true rfl⟩ (fun r9 wd9 H locs hp9 hP hD hS => ?_)
      obtain ⟨q9_106, u9_106, f9_106, rfl, rfl⟩ := hp9
      have hP : va_P (gD G) vwCl ((wM G b T) ++ [(q9_106, .inr (0, [.ref u9_106, .int 0, .int 0, .int 0])), (u9_106, .inl (gC G 2, (k9_103 + d9_103), .inl f9_106))]) H := hP
      have hD : va_D A ((wM G b T) ++ [(q9_106, .inr (0, [.ref u9_106, .int 0, .int 0, .int 0])), (u9_106, .inl (gC G 2, (k9_103 + d9_103), .inl f9_106))]) := hD
      refine W.eq (g2 := F0 m 109 ls [.ref q9_106]) rfl ?_
      exact weA hx hb hr (Or.inl ⟨_, rfl⟩) hk ⟨⟨_, rfl⟩, (congrArg (wM G b) (show gX2_betweenNow T p0 p1 p2 = T from (Eq.trans (if_pos c_1) (if_pos c_6))).symm)⟩ (show va_P (gD G) vwCl (wM G b T) _ from hP.sub [0, 1, 2, 3, 4] rfl) (show va_D A (wM G b T) from hD.sub [0, 1, 2, 3, 4] (by decide) rfl) hS (Nat.le_of_ble_eq_true rfl) (Nat.le_of_ble_eq_true rfl) dX2_betweenNow_109

