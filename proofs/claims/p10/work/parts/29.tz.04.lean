set_option maxRecDepth 100000 in
set_option maxHeartbeats 4000000 in
theorem dgLoop {p : Program} {l : Launch} {e : Env} {s : State} {m : MethodId} {args : Array Value} {below : List Frame} {meth : Method} {c : Code} {Q : State → Prop} {G : GT} {A : Nat → Prop} (C : CallFix p m c cX0_digitsOf 7 s args BW RX0) (hE : EV G s s.heap) (hA : ∀ q : Nat, s.heap.size ≤ q → A q) (hAB : ∀ q : Nat, A q → gB G ≤ q) {o c9 : Nat} {x : Int64} (hc9 : c9 ≤ 19) : ∀ (fu i : Nat) (y : Int64) (v n : Nat) (f : Nat → Int32), c9 ≤ i + fu → i ≤ c9 → mOK n → i ≤ n → sb_Fit f → ∀ (H : Heap) (locs : List Loc), va_P (gD G) vwCl [(o, .inr (1, [.ref v, .int 0, .int 0, .int (nI i)])), (v, .inl (gC G 2, n, .inl f))] H → va_D A [(o, .inr (1, [.ref v, .int 0, .int 0, .int (nI i)])), (v, .inl (gC G 2, n, .inl f))] → va_S A s.heap H locs → ∀ ls : Array Slot, lv_has ls 7 [(6, .int (nI i)), (4, .long y), (3, .int (nI c9)), (2, .ref o), (0, .long x)] → (∀ (v n : Nat) (f : Nat → Int32), mOK n → c9 ≤ n → sb_Fit f → ∀ (H : Heap) (locs : List Loc), va_P (gD G) vwCl [(o, .inr (1, [.ref v, .int 0, .int 0, .int (nI c9)])), (v, .inl (gC G 2, n, .inl f))] H → va_D A [(o, .inr (1, [.ref v, .int 0, .int 0, .int (nI c9)])), (v, .inl (gC G 2, n, .inl f))] → va_S A s.heap H locs → ∀ ls : Array Slot, lv_has ls 7 [(2, .ref o), (0, .long x)] → W p l e (rmK 8 30 800) s m args below meth c H locs (2 + c9) (20 + 34 * c9) Q (F0 m 74 ls [])) → W p l e (rmK 8 30 800) s m args below meth c H locs (2 + i) (20 + 34 * i) Q (F0 m 34 ls []) := by
  have hx := C.1
  have hb := C.2.1
  have hml := C.2.2.1
  have hown := C.2.2.2.1
  have hw := C.2.2.2.2
  intro fu
  induction fu with
  | zero =>
    intro i y v n f h1 h2 hm hle hf H locs hP hD hS ls hl kk
    obtain rfl : i = c9 := by omega
    exact dgEnd C hE kk hP hD hS hm hle hf hl
  | succ fu ih =>
    intro i y v n f h1 h2 hm hle hf H locs hP hD hS ls hl kk
    refine lv_iload hx hb dX0_digitsOf_34 (lv_at hl 0 rfl) ?_
    refine lv_iload_n hx hb dX0_digitsOf_36 rfl (lv_at hl 2 rfl) ?_
    refine lv_icmp_ge (tgt := 74) hx hb dX0_digitsOf_37 (by decide) (fun c_1 => ?_) (fun c_1 => ?_)
    · obtain rfl : i = c9 := by
        have z := (nI_ltI (a := i) (b := c9) (by omega) (by omega)).mpr
        rcases Nat.lt_or_ge i c9 with q | q
        · exact absurd (z q) (Int32.not_lt.mpr c_1)
        · omega
      exact kk v n f hm hle hf H locs hP hD hS ls (lv_sub hl [3, 4] rfl)
    · have hic : i < c9 := (nI_ltI (by omega) (by omega)).mp (Int32.not_le.mp c_1)
      refine lv_aload_n hx hb dX0_digitsOf_40 rfl (lv_at hl 3 rfl) ?_
      refine lv_ldc2 (v := (48 : Int64)) hx hb hown (hw _ bw808) dX0_digitsOf_41 ?_
      refine lv_lload hx hb dX0_digitsOf_44 (lv_at hl 1 rfl) ?_
      refine lv_ldc2 (v := (10 : Int64)) hx hb hown (hw _ bw269) dX0_digitsOf_46 ?_
      refine lv_lrem hx hb dX0_digitsOf_49 (by decide) ?_
      refine rcSf (st1 := [.long (fJ9_abs_067f4 (y - y / (10 : Int64) * (10 : Int64))), .long (48 : Int64), .ref o]) (as := [.long (y - y / (10 : Int64) * (10 : Int64))]) (rest := [.long (48 : Int64), .ref o]) C (c_J9_abs_067f4 l G (y - y / (10 : Int64) * (10 : Int64))) F_J9_abs_067f4 rfl bw809 bw810 (hE.S hS hAB) vpn hl.1 dX0_digitsOf_50 ⟨Nat.le_of_ble_eq_true rfl, Nat.le_of_ble_eq_true rfl⟩ rfl (Nat.le_of_ble_eq_true rfl) ⟨by show 2 + i ≤ 30; omega, by show 20 + 34 * i ≤ 800; omega⟩ rfl ?_
      refine lv_ladd hx hb dX0_digitsOf_53 ?_
      refine lv_l2i (v := (((48 : Int64) + (fJ9_abs_067f4 (y - y / (10 : Int64) * (10 : Int64)))).toInt32)) hx hb dX0_digitsOf_54 (by first | rfl | decide) ?_
      refine lv_i2c (v := (((((48 : Int64) + (fJ9_abs_067f4 (y - y / (10 : Int64) * (10 : Int64)))).toInt32).toUInt32 % 65536).toInt32)) hx hb dX0_digitsOf_55 (by first | rfl | decide) ?_
      have hP9 : va_P (gD G) vwCl ([] ++ [(o, .inr (1, [.ref v, .int 0, .int 0, .int (nI i)])), (v, .inl (gC G 2, n, .inl f))]) _ := hP
      have hD9 : va_D A ([] ++ [(o, .inr (1, [.ref v, .int 0, .int 0, .int (nI i)])), (v, .inl (gC G 2, n, .inl f))]) := hD
      refine weVf (wr := []) (wd := [(o, .inr (1, [.ref v, .int 0, .int 0, .int (nI i)])), (v, .inl (gC G 2, n, .inl f))]) (as := [.int (((((48 : Int64) + (fJ9_abs_067f4 (y - y / (10 : Int64) * (10 : Int64)))).toInt32).toUInt32 % 65536).toInt32)]) (rest := []) (cl := RJ4) C (s_appC l G o v n i f (((((48 : Int64) + (fJ9_abs_067f4 (y - y / (10 : Int64) * (10 : Int64)))).toInt32).toUInt32 % 65536).toInt32) hm (by omega) hf (ce_dig _)) F_J4_append_cf468 rfl bw812 bw813 (hw _ bw814) (hE.S hS hAB) hP9 hD9 hS hA hAB (rv1 hE.K hP (q0 := 0) rfl) hl.1 dX0_digitsOf_56 ⟨Nat.le_of_ble_eq_true rfl, Nat.le_of_ble_eq_true rfl⟩ rfl (Nat.le_of_ble_eq_true rfl) ⟨by show 2 + i + 1 ≤ 30; omega, by show 20 + 34 * i + 34 ≤ 800; omega⟩ (fun r9 wd9 H locs hp9 hP hD hS => ?_)
      obtain ⟨rfl, v9_56, m9_56, f9_56, rfl, hm9_56, hle9_56, hf9_56⟩ := hp9
      have hP : va_P (gD G) vwCl [(o, .inr (1, [.ref v9_56, .int 0, .int 0, .int (nI (i + 1))])), (v9_56, .inl (gC G 2, m9_56, .inl f9_56))] H := hP
      have hD : va_D A [(o, .inr (1, [.ref v9_56, .int 0, .int 0, .int (nI (i + 1))])), (v9_56, .inl (gC G 2, m9_56, .inl f9_56))] := hD
      refine W.eq (g2 := F0 m 59 ls [.ref o]) rfl ?_
      refine lv_pop hx hb dX0_digitsOf_59 rfl ?_
      refine lv_lload hx hb dX0_digitsOf_60 (lv_at hl 1 rfl) ?_
      refine lv_ldc2 (v := (10 : Int64)) hx hb hown (hw _ bw269) dX0_digitsOf_62 ?_
      refine lv_ldiv hx hb dX0_digitsOf_65 (by decide) ?_
      refine lv_lstore (lv' := [(4, .long (y / (10 : Int64))), (6, .int (nI i)), (3, .int (nI c9)), (2, .ref o), (0, .long x)]) hx hb dX0_digitsOf_66 hl (Nat.le_of_ble_eq_true rfl) rfl (fun ls hl => ?_)
      refine lv_iinc (v := (nI (i + 1))) (lv' := [(6, .int (nI (i + 1))), (4, .long (y / (10 : Int64))), (3, .int (nI c9)), (2, .ref o), (0, .long x)]) hx hb dX0_digitsOf_68 hl (k := 1) rfl (nI_1 i) (Nat.le_of_ble_eq_true rfl) rfl (fun ls hl => ?_)
      refine lv_goto (tgt := 34) hx hb dX0_digitsOf_71 (by decide) ?_
      refine W.widen (k := 2 + (i + 1)) (n := 20 + 34 * (i + 1)) (by omega) (by omega) ?_
      exact ih (i + 1) (y / (10 : Int64)) _ _ _ (by omega) (by omega) hm9_56 hle9_56 hf9_56 _ _ hP hD hS ls (lv_sub hl [0, 1, 2, 3, 4] rfl) kk

