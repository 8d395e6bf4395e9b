set_option maxRecDepth 100000 in
set_option maxHeartbeats 4000000 in
theorem s_digitsOf_n (l : Launch) (G : GT) (x : Int64) (k : Nat) (hk19 : k ≤ 19) (hdc : fX0_digitCount x = nI (k + 1)) (hx0 : ¬ 0 ≤ (lg_cmp x (0 : Int64))) : WE l G yX0_digitsOf cX0_digitsOf 7 (some (.object "java/lang/String")) 8 30 800 [.long x] [] (fun r wd => (∃ q : Nat, r = some (.ref q)) ∧ wd = []) := by
  refine WE.ofW (own := RX0) rfl (by decide +kernel) (Nat.le_of_ble_eq_true rfl) ?_
  intro p e s m below meth c A C hr hk hnm hE hP hD hA hAB hS ls hl
  have hx := C.1
  have hb := C.2.1
  have hml := C.2.2.1
  have hown := C.2.2.2.1
  have hw := C.2.2.2.2
  have hl : lv_has ls 7 [(0, .long x)] := hl
  refine va_new (cl := vwCl) (tys := gT G) (ci := 1) (fs := [.null, .int 0, .int 0, .int 0]) (C := RJ4) (T := TJ4) (N := 4) hx hb hw inB_J4 tyJ4 tyJ4_ok hown (hw _ bw777) (hw _ bw778) (hw _ bw67) hE.K hP hD hS hA rfl (fun j hj => by rcases (show j = 0 ∨ j = 1 ∨ j = 2 ∨ j = 3 by omega) with rfl | rfl | rfl | rfl <;> rfl) (Nat.le_of_ble_eq_true rfl) (Nat.le_of_ble_eq_true rfl) dX0_digitsOf_0 (fun q0 H hP hD hS => ?_)
  have hP : va_P (gD G) vwCl [(q0, .inr (1, [.null, .int 0, .int 0, .int 0]))] H := hP
  have hD : va_D A [(q0, .inr (1, [.null, .int 0, .int 0, .int 0]))] := hD
  refine lv_dup hx hb dX0_digitsOf_3 rfl ?_
  have hP9 : va_P (gD G) vwCl ([] ++ [(q0, .inr (1, [.null, .int 0, .int 0, .int 0]))]) _ := hP
  have hD9 : va_D A ([] ++ [(q0, .inr (1, [.null, .int 0, .int 0, .int 0]))]) := hD
  refine weI (wr := []) (wd := [(q0, .inr (1, [.null, .int 0, .int 0, .int 0]))]) (as := []) (rest := [.ref q0]) C (i_J4_init_da8c8 l G q0) F_J4_init_da8c8 rfl bw779 bw780 rfl (hE.S hS hAB) hP9 hD9 hS hA hAB hl.1 dX0_digitsOf_4 ⟨Nat.le_of_ble_eq_true rfl, Nat.le_of_ble_eq_true rfl⟩ rfl (Nat.le_of_ble_eq_true rfl) ⟨Nat.le_of_ble_eq_true rfl, Nat.le_of_ble_eq_true rfl⟩ (fun r9 wd9 H locs hp9 hP hD hS => ?_)
  obtain ⟨rfl, v9_4, rfl⟩ := hp9
  have hP : va_P (gD G) vwCl [(q0, .inr (1, [.ref v9_4, .int 0, .int 0, .int (nI 0)])), (v9_4, .inl (gC G 2, 16, .inl (fun _ => 0)))] H := hP
  have hD : va_D A [(q0, .inr (1, [.ref v9_4, .int 0, .int 0, .int (nI 0)])), (v9_4, .inl (gC G 2, 16, .inl (fun _ => 0)))] := hD
  refine W.eq (g2 := F0 m 7 ls [.ref q0]) rfl ?_
  refine lv_astore_n (lv' := [(2, .ref q0), (0, .long x)]) hx hb dX0_digitsOf_7 rfl hl (Nat.le_of_ble_eq_true rfl) rfl (fun ls hl => ?_)
  refine lv_lload_n hx hb dX0_digitsOf_8 rfl (lv_at hl 1 rfl) ?_
  refine lv_lconst (v := (0 : Int64)) hx hb dX0_digitsOf_9 (by decide) ?_
  refine W.lcmp hx hb dX0_digitsOf_10 ?_
  refine lv_if_ge (tgt := 23) hx hb dX0_digitsOf_11 (by decide) (fun c_x => absurd c_x hx0) (fun _ => ?_)
  refine lv_lload_n hx hb dX0_digitsOf_14 rfl (lv_at hl 1 rfl) ?_
  refine rcSf (st1 := [.int (fX0_digitCount x)]) (as := [.long x]) (rest := []) C (c_X0_digitCount l G x) F_X0_digitCount rfl bw266 bw267 (hE.S hS hAB) vpn hl.1 dX0_digitsOf_15 ⟨Nat.le_of_ble_eq_true rfl, Nat.le_of_ble_eq_true rfl⟩ rfl (Nat.le_of_ble_eq_true rfl) ⟨Nat.le_of_ble_eq_true rfl, Nat.le_of_ble_eq_true rfl⟩ rfl ?_
  refine k_foldi (y := (nI (k + 1))) hdc ?_
  refine lv_iconst (v := (1 : Int32)) hx hb dX0_digitsOf_18 (by decide) ?_
  refine lv_isub hx hb dX0_digitsOf_19 ?_
  refine k_foldi (y := (nI k)) (nI_prd k) ?_
  refine lv_goto (tgt := 27) hx hb dX0_digitsOf_20 (by decide) ?_
  refine lv_istore_n (lv' := [(3, .int (nI k)), (2, .ref q0), (0, .long x)]) hx hb dX0_digitsOf_27 rfl hl (Nat.le_of_ble_eq_true rfl) rfl (fun ls hl => ?_)
  refine lv_lload_n hx hb dX0_digitsOf_28 rfl (lv_at hl 2 rfl) ?_
  refine lv_lstore (lv' := [(4, .long x), (3, .int (nI k)), (2, .ref q0), (0, .long x)]) hx hb dX0_digitsOf_29 hl (Nat.le_of_ble_eq_true rfl) rfl (fun ls hl => ?_)
  refine lv_iconst (v := (0 : Int32)) hx hb dX0_digitsOf_31 (by decide) ?_
  refine lv_istore (lv' := [(6, .int (0 : Int32)), (4, .long x), (3, .int (nI k)), (2, .ref q0), (0, .long x)]) hx hb dX0_digitsOf_32 hl (Nat.le_of_ble_eq_true rfl) rfl (fun ls hl => ?_)
  refine W.widen (k := 2 + 0) (n := 20 + 34 * 0) (by decide) (by decide) ?_
  refine dgLoop C hE hA hAB (c9 := k) (by omega) k 0 x _ _ _ (by omega) (Nat.zero_le _) (Or.inl rfl) (Nat.zero_le _) sb_fit0 _ _ hP hD hS ls (lv_sub hl [0, 1, 2, 3, 4] rfl) (fun v n f hm hle hf H locs hP hD hS ls hl => ?_)
  refine lv_lload_n hx hb dX0_digitsOf_74 rfl (lv_at hl 1 rfl) ?_
  refine lv_lconst (v := (0 : Int64)) hx hb dX0_digitsOf_75 (by decide) ?_
  refine W.lcmp hx hb dX0_digitsOf_76 ?_
  refine lv_if_ge (tgt := 87) hx hb dX0_digitsOf_77 (by decide) (fun c_x => absurd c_x hx0) (fun _ => ?_)
  refine lv_aload_n hx hb dX0_digitsOf_80 rfl (lv_at hl 0 rfl) ?_
  refine lv_bipush (v := (45 : Int32)) hx hb dX0_digitsOf_81 (by decide) ?_
  have hP9 : va_P (gD G) vwCl ([] ++ [(q0, .inr (1, [.ref v, .int 0, .int 0, .int (nI k)])), (v, .inl (gC G 2, n, .inl f))]) _ := hP
  have hD9 : va_D A ([] ++ [(q0, .inr (1, [.ref v, .int 0, .int 0, .int (nI k)])), (v, .inl (gC G 2, n, .inl f))]) := hD
  refine weVf (wr := []) (wd := [(q0, .inr (1, [.ref v, .int 0, .int 0, .int (nI k)])), (v, .inl (gC G 2, n, .inl f))]) (as := [.int (45 : Int32)]) (rest := []) (cl := RJ4) C (s_appC l G q0 v n k f (45 : Int32) hm (by omega) hf (by decide)) F_J4_append_cf468 rfl bw812 bw813 (hw _ bw814) (hE.S hS hAB) hP9 hD9 hS hA hAB (rv1 hE.K hP (q0 := 0) rfl) hl.1 dX0_digitsOf_83 ⟨Nat.le_of_ble_eq_true rfl, Nat.le_of_ble_eq_true rfl⟩ rfl (Nat.le_of_ble_eq_true rfl) ⟨by show 2 + k + 1 ≤ 30; omega, by show 20 + 34 * k + 34 ≤ 800; omega⟩ (fun r9 wd9 H locs hp9 hP hD hS => ?_)
  obtain ⟨rfl, v9_83, m9_83, f9_83, rfl, hm9_83, hle9_83, hf9_83⟩ := hp9
  have hP : va_P (gD G) vwCl [(q0, .inr (1, [.ref v9_83, .int 0, .int 0, .int (nI (k + 1))])), (v9_83, .inl (gC G 2, m9_83, .inl f9_83))] H := hP
  have hD : va_D A [(q0, .inr (1, [.ref v9_83, .int 0, .int 0, .int (nI (k + 1))])), (v9_83, .inl (gC G 2, m9_83, .inl f9_83))] := hD
  refine W.eq (g2 := F0 m 86 ls [.ref q0]) rfl ?_
  refine lv_pop hx hb dX0_digitsOf_86 rfl ?_
  refine lv_aload_n hx hb dX0_digitsOf_87 rfl (lv_at hl 0 rfl) ?_
  have hP9 : va_P (gD G) vwCl ([] ++ [(q0, .inr (1, [.ref v9_83, .int 0, .int 0, .int (nI (k + 1))])), (v9_83, .inl (gC G 2, m9_83, .inl f9_83))]) _ := hP
  have hD9 : va_D A ([] ++ [(q0, .inr (1, [.ref v9_83, .int 0, .int 0, .int (nI (k + 1))])), (v9_83, .inl (gC G 2, m9_83, .inl f9_83))]) := hD
  refine weVf (wr := []) (wd := [(q0, .inr (1, [.ref v9_83, .int 0, .int 0, .int (nI (k + 1))])), (v9_83, .inl (gC G 2, m9_83, .inl f9_83))]) (as := []) (rest := []) (cl := RJ4) C (s_rev l G q0 v9_83 m9_83 (k + 1) f9_83 hm9_83 (by omega) hle9_83 hf9_83) F_J4_reverse_43fcb rfl bw905 bw906 (hw _ bw907) (hE.S hS hAB) hP9 hD9 hS hA hAB (rv1 hE.K hP (q0 := 0) rfl) hl.1 dX0_digitsOf_88 ⟨Nat.le_of_ble_eq_true rfl, Nat.le_of_ble_eq_true rfl⟩ rfl (Nat.le_of_ble_eq_true rfl) ⟨by show 2 + k + 1 + 0 ≤ 30; omega, by show 20 + 34 * k + 34 + 0 ≤ 800; omega⟩ (fun r9 wd9 H locs hp9 hP hD hS => ?_)
  obtain ⟨rfl, v9_88, m9_88, f9_88, rfl, hm9_88, hle9_88, hf9_88⟩ := hp9
  have hP : va_P (gD G) vwCl [(q0, .inr (1, [.ref v9_88, .int 0, .int 0, .int (nI (k + 1))])), (v9_88, .inl (gC G 2, m9_88, .inl f9_88))] H := hP
  have hD : va_D A [(q0, .inr (1, [.ref v9_88, .int 0, .int 0, .int (nI (k + 1))])), (v9_88, .inl (gC G 2, m9_88, .inl f9_88))] := hD
  refine W.eq (g2 := F0 m 91 ls [.ref q0]) rfl ?_
  have hP9 : va_P (gD G) vwCl ([] ++ [(q0, .inr (1, [.ref v9_88, .int 0, .int 0, .int (nI (k + 1))])), (v9_88, .inl (gC G 2, m9_88, .inl f9_88))]) _ := hP
  have hD9 : va_D A ([] ++ [(q0, .inr (1, [.ref v9_88, .int 0, .int 0, .int (nI (k + 1))])), (v9_88, .inl (gC G 2, m9_88, .inl f9_88))]) := hD
  refine weVf (wr := []) (wd := [(q0, .inr (1, [.ref v9_88, .int 0, .int 0, .int (nI (k + 1))])), (v9_88, .inl (gC G 2, m9_88, .inl f9_88))]) (as := []) (rest := []) (cl := RJ4) C (s_toString l G q0 v9_88 m9_88 (k + 1) f9_88 (mOK.lt hm9_88) hle9_88 hf9_88) F_J4_toString_0e30d rfl bw942 bw943 (hw _ bw944) (hE.S hS hAB) hP9 hD9 hS hA hAB (rv1 hE.K hP (q0 := 0) rfl) hl.1 dX0_digitsOf_91 ⟨Nat.le_of_ble_eq_true rfl, Nat.le_of_ble_eq_true rfl⟩ rfl (Nat.le_of_ble_eq_true rfl) ⟨by show 2 + k + 1 + 0 + 2 ≤ 30; omega, by show 20 + 34 * k + 34 + 0 + 38 ≤ 800; omega⟩ (fun r9 wd9 H locs hp9 hP hD hS => ?_)
  obtain ⟨q9_91, u9_91, f9_91, rfl, rfl⟩ := hp9
  have hP : va_P (gD G) vwCl [(q9_91, .inr (0, [.ref u9_91, .int 0, .int 0, .int 0])), (u9_91, .inl (gC G 2, (k + 1), .inl f9_91))] H := hP
  have hD : va_D A [(q9_91, .inr (0, [.ref u9_91, .int 0, .int 0, .int 0])), (u9_91, .inl (gC G 2, (k + 1), .inl f9_91))] := hD
  refine W.eq (g2 := F0 m 94 ls [.ref q9_91]) rfl ?_
  exact weA hx hb hr (Or.inl ⟨_, rfl⟩) hk ⟨⟨_, rfl⟩, rfl⟩ (hP.sub [] rfl) (hD.sub [] (by decide) rfl) hS (by show 2 + k + 1 + 0 + 2 ≤ 30; omega) (by show 20 + 34 * k + 34 + 0 + 38 ≤ 800; omega) dX0_digitsOf_94

