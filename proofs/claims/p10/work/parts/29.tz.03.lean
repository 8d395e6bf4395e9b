set_option maxRecDepth 100000 in
set_option maxHeartbeats 4000000 in
theorem s_rev5 (l : Launch) (G : GT) (o v w9 k : Nat) (f : Nat → Int32) (hm : mOK w9) (hk9 : k < 34) (hkm : k ≤ w9) (hf : sb_Fit f) : WE l G yJ5_reverse_278bc cJ5_reverse_278bc 7 (some (.object "java/lang/AbstractStringBuilder")) 2 0 0 [.ref o] [(o, .inr (1, [.ref v, .int 0, .int 0, .int (nI k)])), (v, .inl (gC G 2, w9, .inl f))] (fun r wd => r = some (.ref o) ∧ BD G o k wd) := by
  refine WE.ofW (own := RJ5) rfl (by decide +kernel) (Nat.le_of_ble_eq_true rfl) ?_
  intro p e s m below meth c A C hr hk hnm hE hP hD hA hAB hS ls hl
  have hx := C.1
  have hb := C.2.1
  have hml := C.2.2.1
  have hown := C.2.2.2.1
  have hw := C.2.2.2.2
  have hl : lv_has ls 7 [(0, .ref o)] := hl
  refine lv_aload_n hx hb dJ5_reverse_278bc_0 rfl (lv_at hl 0 rfl) ?_
  refine va_get (D := gD G) (cl := vwCl) (tys := gT G) (ci := 1) (v := .ref v) (C := RJ4) (T := TJ4) (N := 4) hx hb hw inB_J4 hown hE.K hP 0 rfl rfl 0 (by decide) (hw _ bw795) (fun _ h9 => h9) rfl dJ5_reverse_278bc_1 ?_
  refine lv_astore_n (lv' := [(1, .ref v), (0, .ref o)]) hx hb dJ5_reverse_278bc_4 rfl hl (Nat.le_of_ble_eq_true rfl) rfl (fun ls hl => ?_)
  refine lv_aload_n hx hb dJ5_reverse_278bc_5 rfl (lv_at hl 1 rfl) ?_
  refine va_get (D := gD G) (cl := vwCl) (tys := gT G) (ci := 1) (v := .int (nI k)) (C := RJ4) (T := TJ4) (N := 4) hx hb hw inB_J4 hown hE.K hP 0 rfl rfl 3 (by decide) (hw _ bw798) (fun _ h9 => h9) rfl dJ5_reverse_278bc_6 ?_
  refine lv_istore_n (lv' := [(2, .int (nI k)), (1, .ref v), (0, .ref o)]) hx hb dJ5_reverse_278bc_9 rfl hl (Nat.le_of_ble_eq_true rfl) rfl (fun ls hl => ?_)
  refine lv_iload_n hx hb dJ5_reverse_278bc_10 rfl (lv_at hl 0 rfl) ?_
  refine lv_iconst (v := (1 : Int32)) hx hb dJ5_reverse_278bc_11 (by decide) ?_
  refine lv_isub hx hb dJ5_reverse_278bc_12 ?_
  refine lv_istore_n (lv' := [(3, .int ((nI k) - (1 : Int32))), (2, .int (nI k)), (1, .ref v), (0, .ref o)]) hx hb dJ5_reverse_278bc_13 rfl hl (Nat.le_of_ble_eq_true rfl) rfl (fun ls hl => ?_)
  refine lv_aload_n hx hb dJ5_reverse_278bc_14 rfl (lv_at hl 3 rfl) ?_
  refine rcVf (st1 := [.int (1 : Int32)]) (as := []) (rest := []) (cl := RJ4) C (s_isLatin1 l G o v w9 0 (nI k) f) F_J5_isLatin1_aae02 rfl bw852 bw853 (hw _ bw855) (hE.S hS hAB) (show va_P (gD G) vwCl [(o, .inr (1, [.ref v, .int 0, .int 0, .int (nI k)])), (v, .inl (gC G 2, w9, .inl f))] _ from hP.sub [0, 1] rfl) (rv1 hE.K hP (q0 := 0) rfl) hl.1 dJ5_reverse_278bc_15 ⟨Nat.le_of_ble_eq_true rfl, Nat.le_of_ble_eq_true rfl⟩ rfl (Nat.le_of_ble_eq_true rfl) ⟨Nat.le_of_ble_eq_true rfl, Nat.le_of_ble_eq_true rfl⟩ rfl ?_
  refine lv_if_eq (tgt := 68) hx hb dJ5_reverse_278bc_18 (by decide) (fun c_x => absurd c_x (by decide)) (fun _ => ?_)
  refine lv_iload_n hx hb dJ5_reverse_278bc_21 rfl (lv_at hl 0 rfl) ?_
  refine lv_iconst (v := (1 : Int32)) hx hb dJ5_reverse_278bc_22 (by decide) ?_
  refine lv_isub hx hb dJ5_reverse_278bc_23 ?_
  refine lv_iconst (v := (1 : Int32)) hx hb dJ5_reverse_278bc_24 (by decide) ?_
  refine lv_ishr hx hb dJ5_reverse_278bc_25 ?_
  refine k_foldi (y := ((nI (k / 2)) - (1 : Int32))) (rev_j k hk9) ?_
  refine lv_istore (lv' := [(4, .int ((nI (k / 2)) - (1 : Int32))), (3, .int ((nI k) - (1 : Int32))), (2, .int (nI k)), (1, .ref v), (0, .ref o)]) hx hb dJ5_reverse_278bc_26 hl (Nat.le_of_ble_eq_true rfl) rfl (fun ls hl => ?_)
  refine rvLoop C hE hA hAB hk9 hkm (k / 2) f (Nat.le_refl _) hf _ _ hP hD hS ls (lv_sub hl [0, 3, 1, 4] rfl) (fun f hf H locs hP hD hS ls hl => ?_)
  refine lv_goto (tgt := 73) hx hb dJ5_reverse_278bc_65 (by decide) ?_
  refine lv_aload_n hx hb dJ5_reverse_278bc_73 rfl (lv_at hl 2 rfl) ?_
  exact weA hx hb hr (Or.inl ⟨_, rfl⟩) hk ⟨rfl, v, w9, f, rfl, hm, hkm, hf⟩ hP hD hS (Nat.le_of_ble_eq_true rfl) (Nat.le_of_ble_eq_true rfl) dJ5_reverse_278bc_74

set_option maxRecDepth 100000 in
set_option maxHeartbeats 4000000 in
theorem s_rev (l : Launch) (G : GT) (o v w9 k : Nat) (f : Nat → Int32) (hm : mOK w9) (hk9 : k < 34) (hkm : k ≤ w9) (hf : sb_Fit f) : WE l G yJ4_reverse_43fcb cJ4_reverse_43fcb 1 (some (.object "java/lang/StringBuilder")) 3 0 0 [.ref o] [(o, .inr (1, [.ref v, .int 0, .int 0, .int (nI k)])), (v, .inl (gC G 2, w9, .inl f))] (fun r wd => r = some (.ref o) ∧ BD G o k wd) := by
  refine WE.ofW (own := RJ4) rfl (by decide +kernel) (Nat.le_of_ble_eq_true rfl) ?_
  intro p e s m below meth c A C hr hk hnm hE hP hD hA hAB hS ls hl
  have hx := C.1
  have hb := C.2.1
  have hml := C.2.2.1
  have hown := C.2.2.2.1
  have hw := C.2.2.2.2
  have hl : lv_has ls 1 [(0, .ref o)] := hl
  refine lv_aload_n hx hb dJ4_reverse_43fcb_0 rfl (lv_at hl 0 rfl) ?_
  have hP9 : va_P (gD G) vwCl ([] ++ [(o, .inr (1, [.ref v, .int 0, .int 0, .int (nI k)])), (v, .inl (gC G 2, w9, .inl f))]) _ := hP
  have hD9 : va_D A ([] ++ [(o, .inr (1, [.ref v, .int 0, .int 0, .int (nI k)])), (v, .inl (gC G 2, w9, .inl f))]) := hD
  refine weU (wr := []) (wd := [(o, .inr (1, [.ref v, .int 0, .int 0, .int (nI k)])), (v, .inl (gC G 2, w9, .inl f))]) (as := []) (rest := []) (cl := RJ4) C (s_rev5 l G o v w9 k f hm hk9 hkm hf) F_J5_reverse_278bc rfl bw909 bw1636 bw807 bw910 (by decide +kernel) (hE.S hS hAB) hP9 hD9 hS hA hAB (rv1 hE.K hP (q0 := 0) rfl) hl.1 dJ4_reverse_43fcb_1 ⟨Nat.le_of_ble_eq_true rfl, Nat.le_of_ble_eq_true rfl⟩ rfl (Nat.le_of_ble_eq_true rfl) ⟨Nat.le_of_ble_eq_true rfl, Nat.le_of_ble_eq_true rfl⟩ (fun r9 wd9 H locs hp9 hP hD hS => ?_)
  obtain ⟨rfl, v9_1, m9_1, f9_1, rfl, hm9_1, hle9_1, hf9_1⟩ := hp9
  have hP : va_P (gD G) vwCl [(o, .inr (1, [.ref v9_1, .int 0, .int 0, .int (nI k)])), (v9_1, .inl (gC G 2, m9_1, .inl f9_1))] H := hP
  have hD : va_D A [(o, .inr (1, [.ref v9_1, .int 0, .int 0, .int (nI k)])), (v9_1, .inl (gC G 2, m9_1, .inl f9_1))] := hD
  refine W.eq (g2 := F0 m 4 ls [.ref o]) rfl ?_
  refine lv_pop hx hb dJ4_reverse_43fcb_4 rfl ?_
  refine lv_aload_n hx hb dJ4_reverse_43fcb_5 rfl (lv_at hl 0 rfl) ?_
  exact weA hx hb hr (Or.inl ⟨_, rfl⟩) hk ⟨rfl, v9_1, m9_1, f9_1, rfl, hm9_1, hle9_1, hf9_1⟩ hP hD hS (Nat.le_of_ble_eq_true rfl) (Nat.le_of_ble_eq_true rfl) dJ4_reverse_43fcb_6

set_option maxRecDepth 100000 in
set_option maxHeartbeats 4000000 in
theorem dgEnd {p : Program} {l : Launch} {e : Env} {s : State} {m : MethodId} {args : Array Value} {below : List Frame} {meth : Method} {c : Code} {Q : State → Prop} {G : GT} {A : Nat → Prop} (C : CallFix p m c cX0_digitsOf 7 s args BW RX0) (hE : EV G s s.heap) {o c9 : Nat} {x y : Int64} {v n : Nat} {f : Nat → Int32} {H : Heap} {locs : List Loc} {ls : Array Slot} (kk : ∀ (v n : Nat) (f : Nat → Int32), mOK n → c9 ≤ n → sb_Fit f → ∀ (H : Heap) (locs : List Loc), va_P (gD G) vwCl [(o, .inr (1, [.ref v, .int 0, .int 0, .int (nI c9)])), (v, .inl (gC G 2, n, .inl f))] H → va_D A [(o, .inr (1, [.ref v, .int 0, .int 0, .int (nI c9)])), (v, .inl (gC G 2, n, .inl f))] → va_S A s.heap H locs → ∀ ls : Array Slot, lv_has ls 7 [(2, .ref o), (0, .long x)] → W p l e (rmK 8 30 800) s m args below meth c H locs (2 + c9) (20 + 34 * c9) Q (F0 m 74 ls [])) (hP : va_P (gD G) vwCl [(o, .inr (1, [.ref v, .int 0, .int 0, .int (nI c9)])), (v, .inl (gC G 2, n, .inl f))] H) (hD : va_D A [(o, .inr (1, [.ref v, .int 0, .int 0, .int (nI c9)])), (v, .inl (gC G 2, n, .inl f))]) (hS : va_S A s.heap H locs) (hm : mOK n) (hle : c9 ≤ n) (hf : sb_Fit f) (hl : lv_has ls 7 [(6, .int (nI c9)), (4, .long y), (3, .int (nI c9)), (2, .ref o), (0, .long x)]) : W p l e (rmK 8 30 800) s m args below meth c H locs (2 + c9) (20 + 34 * c9) Q (F0 m 34 ls []) := by
  have hx := C.1
  have hb := C.2.1
  have hml := C.2.2.1
  have hown := C.2.2.2.1
  have hw := C.2.2.2.2
  refine lv_iload hx hb dX0_digitsOf_34 (lv_at hl 0 rfl) ?_
  refine lv_iload_n hx hb dX0_digitsOf_36 rfl (lv_at hl 2 rfl) ?_
  refine lv_icmp_ge (tgt := 74) hx hb dX0_digitsOf_37 (by decide) (fun _ => ?_) (fun c_x => absurd (Int32.le_refl _) c_x)
  exact kk v n f hm hle hf _ _ hP hD hS ls (lv_sub hl [3, 4] rfl)

