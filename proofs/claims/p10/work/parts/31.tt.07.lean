set_option maxRecDepth 100000 in
set_option maxHeartbeats 4000000 in
theorem u_between5 (l : Launch) (G : GT) (b : Nat → Nat) (T : SM) (p0 : Int32) (p1 : Int32) (h0 : vp_in p0 6) (h1 : vp_in p1 6) (hT : MO T) : WE l G yX2_betweenNow cX2_betweenNow 7 (some (.object "java/lang/String")) 9 6 160 [.ref (b 0), .int p0, .int p1, .int (5 : Int32)] (wM G b T) (fun r wd => ∃ (q u : Nat) (f : Nat → Int32) (k d : Nat), r = some (.ref q) ∧ wd = (wM G b T ++ [(q, .inr (0, [.ref u, .int 0, .int 0, .int 0])), (u, .inl (gC G 2, (k + d), .inl f))]) ∧ SS (fX2_lineBetween T p0 p1 (5 : Int32)) k d) := by
  refine WE.ofW (own := RX2) rfl (by decide +kernel) (Nat.le_of_ble_eq_true rfl) ?_
  intro p e s m below meth c A C hr hk hnm hE hP hD hA hAB hS ls hl
  have hx := C.1
  have hb := C.2.1
  have hml := C.2.2.1
  have hown := C.2.2.2.1
  have hw := C.2.2.2.2
  have hl : lv_has ls 7 [(0, .ref (b 0)), (1, .int p0), (2, .int p1), (3, .int (5 : Int32))] := hl
  refine lv_iload_n hx hb dX2_betweenNow_0 rfl (lv_at hl 3 rfl) ?_
  refine lv_if_ne (tgt := 29) hx hb dX2_betweenNow_1 (by decide) (fun _ => ?_) (fun c_x => absurd c_x (by decide))
  refine lv_iconst (v := (0 : Int32)) hx hb dX2_betweenNow_29 (by decide) ?_
  refine lv_istore (lv' := [(4, .int (0 : Int32)), (0, .ref (b 0)), (1, .int p0), (2, .int p1), (3, .int (5 : Int32))]) hx hb dX2_betweenNow_30 hl (Nat.le_of_ble_eq_true rfl) rfl (fun ls hl => ?_)
  refine lv_iload hx hb dX2_betweenNow_32 (lv_at hl 0 rfl) ?_
  refine lv_if_ne (tgt := 65) hx hb dX2_betweenNow_34 (by decide) (fun c_x => absurd (show (0 : Int32) = 0 from by decide) c_x) (fun _ => ?_)
  refine lv_iload_n hx hb dX2_betweenNow_37 rfl (lv_at hl 4 rfl) ?_
  refine lv_bipush (v := (8 : Int32)) hx hb dX2_betweenNow_38 (by decide) ?_
  refine lv_icmp_le (tgt := 78) hx hb dX2_betweenNow_40 (by decide) (fun _ => ?_) (fun c_x => absurd (show (5 : Int32) ≤ (8 : Int32) from by decide) c_x)
  refine lv_iload_n hx hb dX2_betweenNow_78 rfl (lv_at hl 4 rfl) ?_
  refine lv_bipush (v := (9 : Int32)) hx hb dX2_betweenNow_79 (by decide) ?_
  refine lv_icmp_ge (tgt := 110) hx hb dX2_betweenNow_81 (by decide) (fun c_x => absurd c_x (by decide)) (fun _ => ?_)
  refine va_new (cl := vwCl) (tys := gT G) (ci := 1) (fs := [.null, .int 0, .int 0, .int 0]) (C := RJ4) (T := TJ4) (N := 4) hx hb hw inB_J4 tyJ4 tyJ4_ok hown (hw _ bw1510) (hw _ bw778) (hw _ bw67) hE.K hP hD hS hA rfl (fun j hj => by rcases (show j = 0 ∨ j = 1 ∨ j = 2 ∨ j = 3 by omega) with rfl | rfl | rfl | rfl <;> rfl) (Nat.le_of_ble_eq_true rfl) (Nat.le_of_ble_eq_true rfl) dX2_betweenNow_84 (fun q84 H hP hD hS => ?_)
  have hP : va_P (gD G) vwCl ((wM G b T) ++ [(q84, .inr (1, [.null, .int 0, .int 0, .int 0]))]) H := hP
  have hD : va_D A ((wM G b T) ++ [(q84, .inr (1, [.null, .int 0, .int 0, .int 0]))]) := hD
  refine lv_dup hx hb dX2_betweenNow_87 rfl ?_
  have hP9 : va_P (gD G) vwCl ((wM G b T) ++ [(q84, .inr (1, [.null, .int 0, .int 0, .int 0]))]) _ := hP
  have hD9 : va_D A ((wM G b T) ++ [(q84, .inr (1, [.null, .int 0, .int 0, .int 0]))]) := hD
  refine weI (wr := (wM G b T)) (wd := [(q84, .inr (1, [.null, .int 0, .int 0, .int 0]))]) (as := []) (rest := [.ref q84]) C (i_J4_init_da8c8 l G q84) F_J4_init_da8c8 rfl bw1511 bw780 rfl (hE.S hS hAB) hP9 hD9 hS hA hAB hl.1 dX2_betweenNow_88 ⟨Nat.le_of_ble_eq_true rfl, Nat.le_of_ble_eq_true rfl⟩ rfl (Nat.le_of_ble_eq_true rfl) ⟨Nat.le_of_ble_eq_true rfl, Nat.le_of_ble_eq_true rfl⟩ (fun r9 wd9 H locs hp9 hP hD hS => ?_)
  obtain ⟨rfl, v9_88, rfl⟩ := hp9
  have hP : va_P (gD G) vwCl ((wM G b T) ++ [(q84, .inr (1, [.ref v9_88, .int 0, .int 0, .int (nI 0)])), (v9_88, .inl (gC G 2, 16, .inl (fun _ => 0)))]) H := hP
  have hD : va_D A ((wM G b T) ++ [(q84, .inr (1, [.ref v9_88, .int 0, .int 0, .int (nI 0)])), (v9_88, .inl (gC G 2, 16, .inl (fun _ => 0)))]) := hD
  refine W.eq (g2 := F0 m 91 ls [.ref q84]) rfl ?_
  refine va_ldcS hx hb hown hE.1.2.2.2.2.1 dX2_betweenNow_91 ?_
  have hP9 : va_P (gD G) vwCl ((wM G b T) ++ [(q84, .inr (1, [.ref v9_88, .int 0, .int 0, .int (nI 0)])), (v9_88, .inl (gC G 2, 16, .inl (fun _ => 0)))]) _ := hP
  have hD9 : va_D A ((wM G b T) ++ [(q84, .inr (1, [.ref v9_88, .int 0, .int 0, .int (nI 0)])), (v9_88, .inl (gC G 2, 16, .inl (fun _ => 0)))]) := hD
  refine weVf (wr := (wM G b T)) (wd := [(q84, .inr (1, [.ref v9_88, .int 0, .int 0, .int (nI 0)])), (v9_88, .inl (gC G 2, 16, .inl (fun _ => 0)))]) (as := [.ref (ga G 6)]) (rest := []) (cl := RJ4) C (s_appS l G q84 v9_88 16 (fun _ => 0) (Or.inl rfl) sb_fit0) F_J4_append_15ec4 rfl bw1512 bw1014 (hw _ bw1015) (hE.S hS hAB) hP9 hD9 hS hA hAB (rv1 hE.K hP (q0 := 5) rfl) hl.1 dX2_betweenNow_93 ⟨Nat.le_of_ble_eq_true rfl, Nat.le_of_ble_eq_true rfl⟩ rfl (Nat.le_of_ble_eq_true rfl) ⟨Nat.le_of_ble_eq_true rfl, Nat.le_of_ble_eq_true rfl⟩ (fun r9 wd9 H locs hp9 hP hD hS => ?_)
  obtain ⟨rfl, v9_93, m9_93, f9_93, rfl, hm9_93, hle9_93, hf9_93⟩ := hp9
  have hP : va_P (gD G) vwCl ((wM G b T) ++ [(q84, .inr (1, [.ref v9_93, .int 0, .int 0, .int (nI 0)])), (v9_93, .inl (gC G 2, m9_93, .inl f9_93))]) H := hP
  have hD : va_D A ((wM G b T) ++ [(q84, .inr (1, [.ref v9_93, .int 0, .int 0, .int (nI 0)])), (v9_93, .inl (gC G 2, m9_93, .inl f9_93))]) := hD
  refine W.eq (g2 := F0 m 96 ls [.ref q84]) rfl ?_
  refine lv_aload_n hx hb dX2_betweenNow_96 rfl (lv_at hl 1 rfl) ?_
  refine lv_iload_n hx hb dX2_betweenNow_97 rfl (lv_at hl 2 rfl) ?_
  refine lv_iload_n hx hb dX2_betweenNow_98 rfl (lv_at hl 3 rfl) ?_
  refine lv_iload_n hx hb dX2_betweenNow_99 rfl (lv_at hl 4 rfl) ?_
  refine rcVf (st1 := [.long (fX2_lineBetween T p0 p1 (5 : Int32)), .ref q84]) (as := [.int p0, .int p1, .int (5 : Int32)]) (rest := [.ref q84]) (cl := RX2) C (c_X2_lineBetween l G b T p0 p1 (5 : Int32) h0 h1 hT) F_X2_lineBetween rfl bw1584 bw1586 (hw _ bw50) (hE.S hS hAB) (show va_P (gD G) vwCl (wM G b T) _ from hP.sub [0, 1, 2, 3, 4] rfl) (rv4 hE.K hP (q0 := 0) rfl) hl.1 dX2_betweenNow_100 ⟨Nat.le_of_ble_eq_true rfl, Nat.le_of_ble_eq_true rfl⟩ rfl (Nat.le_of_ble_eq_true rfl) ⟨Nat.le_of_ble_eq_true rfl, Nat.le_of_ble_eq_true rfl⟩ rfl ?_
  obtain ⟨k9_103, d9_103, hs9_103⟩ := SS_of (fX2_lineBetween T p0 p1 (5 : Int32))
  have hP9 : va_P (gD G) vwCl ((wM G b T) ++ [(q84, .inr (1, [.ref v9_93, .int 0, .int 0, .int (nI 0)])), (v9_93, .inl (gC G 2, m9_93, .inl f9_93))]) _ := hP
  have hD9 : va_D A ((wM G b T) ++ [(q84, .inr (1, [.ref v9_93, .int 0, .int 0, .int (nI 0)])), (v9_93, .inl (gC G 2, m9_93, .inl f9_93))]) := hD
  refine weVf (wr := (wM G b T)) (wd := [(q84, .inr (1, [.ref v9_93, .int 0, .int 0, .int (nI 0)])), (v9_93, .inl (gC G 2, m9_93, .inl f9_93))]) (as := [.long (fX2_lineBetween T p0 p1 (5 : Int32))]) (rest := []) (cl := RJ4) C (s_appL l G q84 v9_93 m9_93 k9_103 d9_103 f9_93 (fX2_lineBetween T p0 p1 (5 : Int32)) hm9_93 hf9_93 hs9_103) F_J4_append_f7089 rfl bw1513 bw1514 (hw _ bw1515) (hE.S hS hAB) hP9 hD9 hS hA hAB (rv1 hE.K hP (q0 := 5) rfl) hl.1 dX2_betweenNow_103 ⟨Nat.le_of_ble_eq_true rfl, Nat.le_of_ble_eq_true rfl⟩ rfl (Nat.le_of_ble_eq_true rfl) ⟨Nat.le_of_ble_eq_true rfl, Nat.le_of_ble_eq_true rfl⟩ (fun r9 wd9 H locs hp9 hP hD hS => ?_)
  obtain ⟨rfl, v9_103, m9_103, f9_103, rfl, hm9_103, hle9_103, hf9_103⟩ := hp9
  have hP : va_P (gD G) vwCl ((wM G b T) ++ [(q84, .inr (1, [.ref v9_103, .int 0, .int 0, .int (nI (k9_103 + d9_103))])), (v9_103, .inl (gC G 2, m9_103, .inl f9_103))]) H := hP
  have hD : va_D A ((wM G b T) ++ [(q84, .inr (1, [.ref v9_103, .int 0, .int 0, .int (nI (k9_103 + d9_103))])), (v9_103, .inl (gC G 2, m9_103, .inl f9_103))]) := hD
  refine W.eq (g2 := F0 m 106 ls [.ref q84]) rfl ?_
  have hP9 : va_P (gD G) vwCl ((wM G b T) ++ [(q84, .inr (1, [.ref v9_103, .int 0, .int 0, .int (nI (k9_103 + d9_103))])), (v9_103, .inl (gC G 2, m9_103, .inl f9_103))]) _ := hP
  have hD9 : va_D A ((wM G b T) ++ [(q84, .inr (1, [.ref v9_103, .int 0, .int 0, .int (nI (k9_103 + d9_103))])), (v9_103, .inl (gC G 2, m9_103, .inl f9_103))]) := hD
  refine weVf (wr := (wM G b T)) (wd := [(q84, .inr (1, [.ref v9_103, .int 0, .int 0, .int (nI (k9_103 + d9_103))])), (v9_103, .inl (gC G 2, m9_103, .inl f9_103))]) (as := []) (rest := []) (cl := RJ4) C (s_toString l G q84 v9_103 m9_103 (k9_103 + d9_103) f9_103 (mOK.lt hm9_103) hle9_103 hf9_103) F_J4_toString_0e30d rfl bw1540 bw943 (hw _ bw944) (hE.S hS hAB) hP9 hD9 hS hA hAB (rv1 hE.K hP (q0 := 5) rfl) hl.1 dX2_betweenNow_106 ⟨Nat.le_of_ble_eq_true rfl, Nat.le_of_ble_eq_true rfl⟩ rfl (Nat.le_of_ble_eq_true rfl) ⟨Nat.le_of_ble_eq_true rfl, Nat.le_of_ble_eq_true rfl⟩ (fun r9 wd9 H locs hp9 hP hD hS => ?_)
  obtain ⟨q9_106, u9_106, f9_106, rfl, rfl⟩ := hp9
  have hP : va_P (gD G) vwCl ((wM G b T) ++ [(q9_106, .inr (0, [.ref u9_106, .int 0, .int 0, .int 0])), (u9_106, .inl (gC G 2, (k9_103 + d9_103), .inl f9_106))]) H := hP
  have hD : va_D A ((wM G b T) ++ [(q9_106, .inr (0, [.ref u9_106, .int 0, .int 0, .int 0])), (u9_106, .inl (gC G 2, (k9_103 + d9_103), .inl f9_106))]) := hD
  refine W.eq (g2 := F0 m 109 ls [.ref q9_106]) rfl ?_
  exact weA hx hb hr (Or.inl ⟨_, rfl⟩) hk ⟨_, _, _, k9_103, d9_103, rfl, rfl, hs9_103⟩ hP hD hS (Nat.le_of_ble_eq_true rfl) (Nat.le_of_ble_eq_true rfl) dX2_betweenNow_109
