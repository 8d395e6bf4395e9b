set_option maxRecDepth 100000 in
set_option maxHeartbeats 4000000 in
theorem dLoop1 {p : Program} {l : Launch} {e : Env} {s : State} {m : MethodId} {below : List Frame} {meth : Method} {c : Code} {Q : State → Prop} {G : GT} {p0 : Int64} (C : CallFix p m c cX2_dateOf 6 s [Value.long p0].toArray BW RX2) (hE : EV G s s.heap) : ∀ (n : Nat) (r : Int64) (y : Int32) (r1 : Int64) (y1 : Int32), dYok n r y → dYl n r y = (r1, y1) → ∀ ls : Array Slot, lv_has ls 6 [(2, .long r), (4, .int y), (0, .long p0)] → (∀ ls : Array Slot, lv_has ls 6 [(2, .long r1), (4, .int y1), (0, .long p0)] → W p l e (rmK 6 1 3) s m [Value.long p0].toArray below meth c s.heap [] 0 0 Q (F0 m 58 ls [])) → W p l e (rmK 6 1 3) s m [Value.long p0].toArray below meth c s.heap [] 0 0 Q (F0 m 32 ls []) := by
  have hx := C.1
  have hb := C.2.1
  have hown := C.2.2.2.1
  have hw := C.2.2.2.2
  intro n
  induction n with
  | zero => intro r y r1 y1 hok; exact hok.elim
  | succ n ih =>
    intro r y r1 y1 hok he ls hl kk
    refine lv_lload_n hx hb dX2_dateOf_32 rfl (lv_at hl 0 rfl) ?_
    refine lv_iload hx hb dX2_dateOf_33 (lv_at hl 1 rfl) ?_
    refine rcSi (as := [.int y]) (rest := [.long r]) C (c_X2_daysOf_ l G y) F_X2_daysOf_ rfl bw1289 bw1290 hE vpn hl.1 dX2_dateOf_35 ⟨Nat.le_of_ble_eq_true rfl, Nat.le_of_ble_eq_true rfl⟩ rfl (Nat.le_of_ble_eq_true rfl) ⟨Nat.zero_le _, Nat.zero_le _⟩ ?_
    refine lv_i2l (v := ((fX2_daysOf_ y).toInt64)) hx hb dX2_dateOf_38 (by first | rfl | decide) ?_
    refine W.lcmp hx hb dX2_dateOf_39 ?_
    refine lv_if_lt (tgt := 58) hx hb dX2_dateOf_40 (by decide) (fun c_1 => ?_) (fun c_1 => ?_)
    · have e9 : (r, y) = (r1, y1) := Eq.trans (if_pos c_1).symm he
      cases e9
      exact kk ls (lv_sub hl [0, 1, 2] rfl)
    · refine lv_lload_n hx hb dX2_dateOf_43 rfl (lv_at hl 0 rfl) ?_
      refine lv_iload hx hb dX2_dateOf_44 (lv_at hl 1 rfl) ?_
      refine rcSi (as := [.int y]) (rest := [.long r]) C (c_X2_daysOf_ l G y) F_X2_daysOf_ rfl bw1289 bw1290 hE vpn hl.1 dX2_dateOf_46 ⟨Nat.le_of_ble_eq_true rfl, Nat.le_of_ble_eq_true rfl⟩ rfl (Nat.le_of_ble_eq_true rfl) ⟨Nat.zero_le _, Nat.zero_le _⟩ ?_
      refine lv_i2l (v := ((fX2_daysOf_ y).toInt64)) hx hb dX2_dateOf_49 (by first | rfl | decide) ?_
      refine lv_lsub hx hb dX2_dateOf_50 ?_
      refine lv_lstore_n (lv' := [(2, .long (r - ((fX2_daysOf_ y).toInt64))), (4, .int y), (0, .long p0)]) hx hb dX2_dateOf_51 rfl hl (Nat.le_of_ble_eq_true rfl) rfl (fun ls hl => ?_)
      refine lv_iinc (v := (y + (1 : Int32))) (lv' := [(4, .int (y + (1 : Int32))), (2, .long (r - ((fX2_daysOf_ y).toInt64))), (0, .long p0)]) hx hb dX2_dateOf_52 hl (k := 1) rfl (by first | rfl | decide) (Nat.le_of_ble_eq_true rfl) rfl (fun ls hl => ?_)
      refine lv_goto (tgt := 32) hx hb dX2_dateOf_55 (by decide) ?_
      exact ih _ _ _ _ (hok c_1) (Eq.trans (if_neg c_1).symm he) ls (lv_sub hl [1, 0, 2] rfl) kk

set_option maxRecDepth 100000 in
set_option maxHeartbeats 4000000 in
theorem dLoop2 {p : Program} {l : Launch} {e : Env} {s : State} {m : MethodId} {below : List Frame} {meth : Method} {c : Code} {Q : State → Prop} {G : GT} {p0 : Int64} (C : CallFix p m c cX2_dateOf 6 s [Value.long p0].toArray BW RX2) (hE : EV G s s.heap) {y : Int32} : ∀ (n : Nat) (r : Int64) (mo : Int32) (r2 : Int64) (m2 : Int32), dMok n r y mo → dMl n r y mo = (r2, m2) → ∀ ls : Array Slot, lv_has ls 6 [(5, .int mo), (2, .long r), (4, .int y), (0, .long p0)] → (∀ ls : Array Slot, lv_has ls 6 [(5, .int m2), (2, .long r2), (4, .int y), (0, .long p0)] → W p l e (rmK 6 1 3) s m [Value.long p0].toArray below meth c s.heap [] 0 0 Q (F0 m 91 ls [])) → W p l e (rmK 6 1 3) s m [Value.long p0].toArray below meth c s.heap [] 0 0 Q (F0 m 61 ls []) := by
  have hx := C.1
  have hb := C.2.1
  have hown := C.2.2.2.1
  have hw := C.2.2.2.2
  intro n
  induction n with
  | zero => intro r mo r2 m2 hok; exact hok.elim
  | succ n ih =>
    intro r mo r2 m2 hok he ls hl kk
    refine lv_lload_n hx hb dX2_dateOf_61 rfl (lv_at hl 1 rfl) ?_
    refine lv_iload hx hb dX2_dateOf_62 (lv_at hl 2 rfl) ?_
    refine lv_iload hx hb dX2_dateOf_64 (lv_at hl 0 rfl) ?_
    refine rcSi (as := [.int y, .int mo]) (rest := [.long r]) C (c_X2_daysOf l G y mo) F_X2_daysOf rfl bw1223 bw1224 hE vpn hl.1 dX2_dateOf_66 ⟨Nat.le_of_ble_eq_true rfl, Nat.le_of_ble_eq_true rfl⟩ rfl (Nat.le_of_ble_eq_true rfl) ⟨Nat.zero_le _, Nat.zero_le _⟩ ?_
    refine lv_i2l (v := ((fX2_daysOf y mo).toInt64)) hx hb dX2_dateOf_69 (by first | rfl | decide) ?_
    refine W.lcmp hx hb dX2_dateOf_70 ?_
    refine lv_if_lt (tgt := 91) hx hb dX2_dateOf_71 (by decide) (fun c_1 => ?_) (fun c_1 => ?_)
    · have e9 : (r, mo) = (r2, m2) := Eq.trans (if_pos c_1).symm he
      cases e9
      exact kk ls (lv_sub hl [0, 1, 2, 3] rfl)
    · refine lv_lload_n hx hb dX2_dateOf_74 rfl (lv_at hl 1 rfl) ?_
      refine lv_iload hx hb dX2_dateOf_75 (lv_at hl 2 rfl) ?_
      refine lv_iload hx hb dX2_dateOf_77 (lv_at hl 0 rfl) ?_
      refine rcSi (as := [.int y, .int mo]) (rest := [.long r]) C (c_X2_daysOf l G y mo) F_X2_daysOf rfl bw1223 bw1224 hE vpn hl.1 dX2_dateOf_79 ⟨Nat.le_of_ble_eq_true rfl, Nat.le_of_ble_eq_true rfl⟩ rfl (Nat.le_of_ble_eq_true rfl) ⟨Nat.zero_le _, Nat.zero_le _⟩ ?_
      refine lv_i2l (v := ((fX2_daysOf y mo).toInt64)) hx hb dX2_dateOf_82 (by first | rfl | decide) ?_
      refine lv_lsub hx hb dX2_dateOf_83 ?_
      refine lv_lstore_n (lv' := [(2, .long (r - ((fX2_daysOf y mo).toInt64))), (5, .int mo), (4, .int y), (0, .long p0)]) hx hb dX2_dateOf_84 rfl hl (Nat.le_of_ble_eq_true rfl) rfl (fun ls hl => ?_)
      refine lv_iinc (v := (mo + (1 : Int32))) (lv' := [(5, .int (mo + (1 : Int32))), (2, .long (r - ((fX2_daysOf y mo).toInt64))), (4, .int y), (0, .long p0)]) hx hb dX2_dateOf_85 hl (k := 1) rfl (by first | rfl | decide) (Nat.le_of_ble_eq_true rfl) rfl (fun ls hl => ?_)
      refine lv_goto (tgt := 61) hx hb dX2_dateOf_88 (by decide) ?_
      exact ih _ _ _ _ (hok c_1) (Eq.trans (if_neg c_1).symm he) ls (lv_sub hl [0, 1, 2, 3] rfl) kk

set_option maxRecDepth 100000 in
set_option maxHeartbeats 4000000 in
theorem c_X2_dateOf (l : Launch) (G : GT) (p0 : Int64) (n1 n2 : Nat) (r1 : Int64) (y1 : Int32) (r2 : Int64) (m2 : Int32) (h1 : dYok n1 (dR0 p0) (dY0 p0)) (e1 : dYl n1 (dR0 p0) (dY0 p0) = (r1, y1)) (h2 : dMok n2 r1 y1 1) (e2 : dMl n2 r1 y1 1 = (r2, m2)) : MK l G yX2_dateOf cX2_dateOf 6 (some (.array .int)) 6 1 3 [.long p0] [] (fun q H => va_P (gD G) vwCl [(q, .inl (gC G 0, 3, .inl (upd (upd (upd (fun _ => 0) 0 y1) 1 m2) 2 (r2.toInt32 + 1))))] H) := by
  refine MK.ofW (own := RX2) rfl (by decide +kernel) (Nat.le_of_ble_eq_true rfl) ?_
  intro p e s m below meth c C hr hk hE hP hS ls hl
  have hx := C.1
  have hb := C.2.1
  have hown := C.2.2.2.1
  have hw := C.2.2.2.2
  have hl : lv_has ls 6 [(0, .long p0)] := hl
  refine lv_lload_n hx hb dX2_dateOf_0 rfl (lv_at hl 0 rfl) ?_
  refine lv_ldc2 (v := (1970 : Int64)) hx hb hown (hw _ bw1267) dX2_dateOf_1 ?_
  refine rcSl (as := [.long (1970 : Int64)]) (rest := [.long p0]) C (c_X2_ahead l G (1970 : Int64)) F_X2_ahead rfl bw1254 bw1255 hE vpn hl.1 dX2_dateOf_4 ⟨Nat.le_of_ble_eq_true rfl, Nat.le_of_ble_eq_true rfl⟩ rfl (Nat.le_of_ble_eq_true rfl) ⟨Nat.zero_le _, Nat.zero_le _⟩ ?_
  refine lv_ladd hx hb dX2_dateOf_7 ?_
  refine lv_lstore_n (lv' := [(2, .long (p0 + (fX2_ahead (1970 : Int64)))), (0, .long p0)]) hx hb dX2_dateOf_8 rfl hl (Nat.le_of_ble_eq_true rfl) rfl (fun ls hl => ?_)
  refine lv_ldc2 (v := (400 : Int64)) hx hb hown (hw _ bw1266) dX2_dateOf_9 ?_
  refine lv_lload_n hx hb dX2_dateOf_12 rfl (lv_at hl 0 rfl) ?_
  refine lv_ldc2 (v := (146097 : Int64)) hx hb hown (hw _ bw1288) dX2_dateOf_13 ?_
  refine rcSl (as := [.long (p0 + (fX2_ahead (1970 : Int64))), .long (146097 : Int64)]) (rest := [.long (400 : Int64)]) C (c_X2_floor l G (p0 + (fX2_ahead (1970 : Int64))) (146097 : Int64) (by decide)) F_X2_floor rfl bw1260 bw1261 hE vpn hl.1 dX2_dateOf_16 ⟨Nat.le_of_ble_eq_true rfl, Nat.le_of_ble_eq_true rfl⟩ rfl (Nat.le_of_ble_eq_true rfl) ⟨Nat.zero_le _, Nat.zero_le _⟩ ?_
  refine lv_lmul hx hb dX2_dateOf_19 ?_
  refine lv_l2i (v := (((400 : Int64) * (fX2_floor (p0 + (fX2_ahead (1970 : Int64))) (146097 : Int64))).toInt32)) hx hb dX2_dateOf_20 (by first | rfl | decide) ?_
  refine lv_istore (lv' := [(4, .int (((400 : Int64) * (fX2_floor (p0 + (fX2_ahead (1970 : Int64))) (146097 : Int64))).toInt32)), (2, .long (p0 + (fX2_ahead (1970 : Int64)))), (0, .long p0)]) hx hb dX2_dateOf_21 hl (Nat.le_of_ble_eq_true rfl) rfl (fun ls hl => ?_)
  refine lv_lload_n hx hb dX2_dateOf_23 rfl (lv_at hl 1 rfl) ?_
  refine lv_iload hx hb dX2_dateOf_24 (lv_at hl 0 rfl) ?_
  refine lv_i2l (v := ((((400 : Int64) * (fX2_floor (p0 + (fX2_ahead (1970 : Int64))) (146097 : Int64))).toInt32).toInt64)) hx hb dX2_dateOf_26 (by first | rfl | decide) ?_
  refine rcSl (as := [.long ((((400 : Int64) * (fX2_floor (p0 + (fX2_ahead (1970 : Int64))) (146097 : Int64))).toInt32).toInt64)]) (rest := [.long (p0 + (fX2_ahead (1970 : Int64)))]) C (c_X2_ahead l G ((((400 : Int64) * (fX2_floor (p0 + (fX2_ahead (1970 : Int64))) (146097 : Int64))).toInt32).toInt64)) F_X2_ahead rfl bw1254 bw1255 hE vpn hl.1 dX2_dateOf_27 ⟨Nat.le_of_ble_eq_true rfl, Nat.le_of_ble_eq_true rfl⟩ rfl (Nat.le_of_ble_eq_true rfl) ⟨Nat.zero_le _, Nat.zero_le _⟩ ?_
  refine lv_lsub hx hb dX2_dateOf_30 ?_
  refine lv_lstore_n (lv' := [(2, .long ((p0 + (fX2_ahead (1970 : Int64))) - (fX2_ahead ((((400 : Int64) * (fX2_floor (p0 + (fX2_ahead (1970 : Int64))) (146097 : Int64))).toInt32).toInt64)))), (4, .int (((400 : Int64) * (fX2_floor (p0 + (fX2_ahead (1970 : Int64))) (146097 : Int64))).toInt32)), (0, .long p0)]) hx hb dX2_dateOf_31 rfl hl (Nat.le_of_ble_eq_true rfl) rfl (fun ls hl => ?_)
  refine dLoop1 C hE n1 (dR0 p0) (dY0 p0) r1 y1 h1 e1 ls (lv_sub hl [0, 1, 2] rfl) (fun ls hl => ?_)
  refine lv_iconst (v := (1 : Int32)) hx hb dX2_dateOf_58 (by decide) ?_
  refine lv_istore (lv' := [(5, .int (1 : Int32)), (2, .long r1), (4, .int y1), (0, .long p0)]) hx hb dX2_dateOf_59 hl (Nat.le_of_ble_eq_true rfl) rfl (fun ls hl => ?_)
  refine dLoop2 C hE n2 r1 1 r2 m2 h2 e2 ls (lv_sub hl [0, 1, 2, 3] rfl) (fun ls hl => ?_)
  refine lv_iconst (v := (3 : Int32)) hx hb dX2_dateOf_91 (by decide) ?_
  refine va_newa (D := gD G) (cl := vwCl) (tys := gT G) (ws := []) (atype := .int) (a0 := (3, .inl (fun _ => 0))) (N' := 3) hx hb (hw _ bw131) rfl hE.K vpn (vdn _) hS (fun q h => h) (fun cA => rfl) (by decide) (by decide) (by decide) (Nat.le_of_ble_eq_true rfl) (Nat.le_of_ble_eq_true rfl) dX2_dateOf_92 (fun q cA H hK hP hD hS => ?_)
  obtain rfl := hE.c0 (hK.2 3 _ rfl).2
  have hP : va_P (gD G) vwCl [(q, .inl (gC G 0, 3, .inl (fun _ => 0)))] H := hP
  have hD : va_D (fun x => s.heap.size ≤ x) [(q, .inl (gC G 0, 3, .inl (fun _ => 0)))] := hD
  refine lv_dup hx hb dX2_dateOf_94 rfl ?_
  refine lv_iconst (v := (0 : Int32)) hx hb dX2_dateOf_95 (by decide) ?_
  refine lv_iload hx hb dX2_dateOf_96 (lv_at hl 2 rfl) ?_
  refine va_iast (tys := gT G) hx hb hE.K hP hD hS 0 0 rfl rfl (vp_in_lit 0) dX2_dateOf_98 (fun H locs hP hD hS => ?_)
  have hP : va_P (gD G) vwCl [(q, .inl (gC G 0, 3, .inl (upd (fun _ => 0) 0 y1)))] H := hP
  have hD : va_D (fun x => s.heap.size ≤ x) [(q, .inl (gC G 0, 3, .inl (upd (fun _ => 0) 0 y1)))] := hD
  refine lv_dup hx hb dX2_dateOf_99 rfl ?_
  refine lv_iconst (v := (1 : Int32)) hx hb dX2_dateOf_100 (by decide) ?_
  refine lv_iload hx hb dX2_dateOf_101 (lv_at hl 0 rfl) ?_
  refine va_iast (tys := gT G) hx hb hE.K hP hD hS 0 0 rfl rfl (vp_in_lit 1) dX2_dateOf_103 (fun H locs hP hD hS => ?_)
  have hP : va_P (gD G) vwCl [(q, .inl (gC G 0, 3, .inl (upd (upd (fun _ => 0) 0 y1) 1 m2)))] H := hP
  have hD : va_D (fun x => s.heap.size ≤ x) [(q, .inl (gC G 0, 3, .inl (upd (upd (fun _ => 0) 0 y1) 1 m2)))] := hD
  refine lv_dup hx hb dX2_dateOf_104 rfl ?_
  refine lv_iconst (v := (2 : Int32)) hx hb dX2_dateOf_105 (by decide) ?_
  refine lv_lload_n hx hb dX2_dateOf_106 rfl (lv_at hl 1 rfl) ?_
  refine lv_l2i (v := (r2.toInt32)) hx hb dX2_dateOf_107 (by first | rfl | decide) ?_
  refine lv_iconst (v := (1 : Int32)) hx hb dX2_dateOf_108 (by decide) ?_
  refine lv_iadd hx hb dX2_dateOf_109 ?_
  refine va_iast (tys := gT G) hx hb hE.K hP hD hS 0 0 rfl rfl (vp_in_lit 2) dX2_dateOf_110 (fun H locs hP hD hS => ?_)
  have hP : va_P (gD G) vwCl [(q, .inl (gC G 0, 3, .inl (upd (upd (upd (fun _ => 0) 0 y1) 1 m2) 2 ((r2.toInt32) + (1 : Int32)))))] H := hP
  have hD : va_D (fun x => s.heap.size ≤ x) [(q, .inl (gC G 0, 3, .inl (upd (upd (upd (fun _ => 0) 0 y1) 1 m2) 2 ((r2.toInt32) + (1 : Int32)))))] := hD
  exact mk_a hx hb hr (Or.inr ⟨_, rfl⟩) hk hP hS (Nat.le_of_ble_eq_true rfl) (Nat.le_of_ble_eq_true rfl) dX2_dateOf_111

set_option maxRecDepth 100000 in
set_option maxHeartbeats 4000000 in
theorem c_X2_refuses (l : Launch) (G : GT) (b : Nat → Nat) (T : SM) (p0 : Int32) (p1 : Int32) : WR l G yX2_refuses cX2_refuses 3 (some .boolean) 1 0 0 [.ref (b 0), .int p0, .int p1] (wM G b T) (wM G b (gX2_refuses T p0 p1).2) (some (.int (gX2_refuses T p0 p1).1)) := by
  refine WR.ofW (own := RX2) rfl (by decide +kernel) (Nat.le_of_ble_eq_true rfl) ?_
  intro p e s m below meth c A C hr hk hnm hE hP hD hA hAB hS ls hl
  have hx := C.1
  have hb := C.2.1
  have hown := C.2.2.2.1
  have hw := C.2.2.2.2
  have hl : lv_has ls 3 [(0, .ref (b 0)), (1, .int p0), (2, .int p1)] := hl
  refine lv_aload_n hx hb dX2_refuses_0 rfl (lv_at hl 0 rfl) ?_
  refine lv_iload_n hx hb dX2_refuses_1 rfl (lv_at hl 1 rfl) ?_
  refine lv_if_eq (tgt := 9) hx hb dX2_refuses_2 (by decide) (fun c_1 => ?_) (fun c_1 => ?_)
  · refine lv_iload_n hx hb dX2_refuses_9 rfl (lv_at hl 2 rfl) ?_
    refine lv_if_eq (tgt := 17) hx hb dX2_refuses_10 (by decide) (fun c_2 => ?_) (fun c_2 => ?_)
    · refine lv_iconst (v := (0 : Int32)) hx hb dX2_refuses_17 (by decide) ?_
      refine va_put (D := gD G) (cl := vwCl) (tys := gT G) (ci := 4) (v := .int (0 : Int32)) (ty := .int) (C := RX2) (T := TX2) (N := 12) hx hb hw inB_X2 tyX2 tyX2_ok nmX2 hown hE.K hP hD hS 0 rfl rfl 0 (by decide) (hw _ bw1163) (fun _ h9 => h9) rfl (by decide +kernel) rfl rfl (Nat.le_of_ble_eq_true rfl) dX2_refuses_18 (fun H locs hP hD hS => ?_)
      have hP : va_P (gD G) vwCl (wM G b ((0 : Int32), (my T), (mm T), (md T), (mt T), (T.2.2.2.2.2))) H := hP
      have hD : va_D A (wM G b ((0 : Int32), (my T), (mm T), (md T), (mt T), (T.2.2.2.2.2))) := hD
      refine lv_aload_n hx hb dX2_refuses_21 rfl (lv_at hl 0 rfl) ?_
      refine va_get (D := gD G) (cl := vwCl) (tys := gT G) (ci := 4) (v := .int (0 : Int32)) (C := RX2) (T := TX2) (N := 12) hx hb hw inB_X2 hown hE.K hP 0 rfl rfl 0 (by decide) (hw _ bw1163) (fun _ h9 => h9) rfl dX2_refuses_22 ?_
      refine lv_if_le (tgt := 32) hx hb dX2_refuses_25 (by decide) (fun _ => ?_) (fun c_x => absurd (show (0 : Int32) ≤ 0 from by decide) c_x)
      refine lv_iconst (v := (0 : Int32)) hx hb dX2_refuses_32 (by decide) ?_
      exact we_z (ty := .boolean) (wf := wM G b) hx hb hr hk (by decide) hP hD hS (Nat.le_of_ble_eq_true rfl) (Nat.le_of_ble_eq_true rfl) dX2_refuses_33 (by simp [gX2_refuses, frf, fth, c_1, c_2])
    · refine lv_iconst (v := (2 : Int32)) hx hb dX2_refuses_13 (by decide) ?_
      refine lv_goto (tgt := 18) hx hb dX2_refuses_14 (by decide) ?_
      refine va_put (D := gD G) (cl := vwCl) (tys := gT G) (ci := 4) (v := .int (2 : Int32)) (ty := .int) (C := RX2) (T := TX2) (N := 12) hx hb hw inB_X2 tyX2 tyX2_ok nmX2 hown hE.K hP hD hS 0 rfl rfl 0 (by decide) (hw _ bw1163) (fun _ h9 => h9) rfl (by decide +kernel) rfl rfl (Nat.le_of_ble_eq_true rfl) dX2_refuses_18 (fun H locs hP hD hS => ?_)
      have hP : va_P (gD G) vwCl (wM G b ((2 : Int32), (my T), (mm T), (md T), (mt T), (T.2.2.2.2.2))) H := hP
      have hD : va_D A (wM G b ((2 : Int32), (my T), (mm T), (md T), (mt T), (T.2.2.2.2.2))) := hD
      refine lv_aload_n hx hb dX2_refuses_21 rfl (lv_at hl 0 rfl) ?_
      refine va_get (D := gD G) (cl := vwCl) (tys := gT G) (ci := 4) (v := .int (2 : Int32)) (C := RX2) (T := TX2) (N := 12) hx hb hw inB_X2 hown hE.K hP 0 rfl rfl 0 (by decide) (hw _ bw1163) (fun _ h9 => h9) rfl dX2_refuses_22 ?_
      refine lv_if_le (tgt := 32) hx hb dX2_refuses_25 (by decide) (fun c_x => absurd c_x (by decide)) (fun _ => ?_)
      refine lv_iconst (v := (1 : Int32)) hx hb dX2_refuses_28 (by decide) ?_
      refine lv_goto (tgt := 33) hx hb dX2_refuses_29 (by decide) ?_
      exact we_z (ty := .boolean) (wf := wM G b) hx hb hr hk (by decide) hP hD hS (Nat.le_of_ble_eq_true rfl) (Nat.le_of_ble_eq_true rfl) dX2_refuses_33 (by simp [gX2_refuses, frf, fth, c_1, c_2])
  · refine lv_iconst (v := (1 : Int32)) hx hb dX2_refuses_5 (by decide) ?_
    refine lv_goto (tgt := 18) hx hb dX2_refuses_6 (by decide) ?_
    refine va_put (D := gD G) (cl := vwCl) (tys := gT G) (ci := 4) (v := .int (1 : Int32)) (ty := .int) (C := RX2) (T := TX2) (N := 12) hx hb hw inB_X2 tyX2 tyX2_ok nmX2 hown hE.K hP hD hS 0 rfl rfl 0 (by decide) (hw _ bw1163) (fun _ h9 => h9) rfl (by decide +kernel) rfl rfl (Nat.le_of_ble_eq_true rfl) dX2_refuses_18 (fun H locs hP hD hS => ?_)
    have hP : va_P (gD G) vwCl (wM G b ((1 : Int32), (my T), (mm T), (md T), (mt T), (T.2.2.2.2.2))) H := hP
    have hD : va_D A (wM G b ((1 : Int32), (my T), (mm T), (md T), (mt T), (T.2.2.2.2.2))) := hD
    refine lv_aload_n hx hb dX2_refuses_21 rfl (lv_at hl 0 rfl) ?_
    refine va_get (D := gD G) (cl := vwCl) (tys := gT G) (ci := 4) (v := .int (1 : Int32)) (C := RX2) (T := TX2) (N := 12) hx hb hw inB_X2 hown hE.K hP 0 rfl rfl 0 (by decide) (hw _ bw1163) (fun _ h9 => h9) rfl dX2_refuses_22 ?_
    refine lv_if_le (tgt := 32) hx hb dX2_refuses_25 (by decide) (fun c_x => absurd c_x (by decide)) (fun _ => ?_)
    refine lv_iconst (v := (1 : Int32)) hx hb dX2_refuses_28 (by decide) ?_
    refine lv_goto (tgt := 33) hx hb dX2_refuses_29 (by decide) ?_
    exact we_z (ty := .boolean) (wf := wM G b) hx hb hr hk (by decide) hP hD hS (Nat.le_of_ble_eq_true rfl) (Nat.le_of_ble_eq_true rfl) dX2_refuses_33 (by simp [gX2_refuses, frf, fth, c_1])

set_option maxRecDepth 100000 in
set_option maxHeartbeats 4000000 in
theorem c_X2_refuse (l : Launch) (G : GT) (b : Nat → Nat) (T : SM) : WR l G yX2_refuse cX2_refuse 1 (some .int) 1 0 0 [.ref (b 0)] (wM G b T) (wM G b (gX2_refuse T).2) (some (.int (gX2_refuse T).1)) := by
  refine WR.ofW (own := RX2) rfl (by decide +kernel) (Nat.le_of_ble_eq_true rfl) ?_
  intro p e s m below meth c A C hr hk hnm hE hP hD hA hAB hS ls hl
  have hx := C.1
  have hb := C.2.1
  have hown := C.2.2.2.1
  have hw := C.2.2.2.2
  have hl : lv_has ls 1 [(0, .ref (b 0))] := hl
  refine lv_aload_n hx hb dX2_refuse_0 rfl (lv_at hl 0 rfl) ?_
  refine lv_dup hx hb dX2_refuse_1 rfl ?_
  refine va_get (D := gD G) (cl := vwCl) (tys := gT G) (ci := 4) (v := .int (mi T 5)) (C := RX2) (T := TX2) (N := 12) hx hb hw inB_X2 hown hE.K hP 0 rfl rfl 10 (by decide) (hw _ bw1173) (fun _ h9 => h9) rfl dX2_refuse_2 ?_
  refine lv_iconst (v := (1 : Int32)) hx hb dX2_refuse_5 (by decide) ?_
  refine lv_iadd hx hb dX2_refuse_6 ?_
  refine va_put (D := gD G) (cl := vwCl) (tys := gT G) (ci := 4) (v := .int ((mi T 5) + (1 : Int32))) (ty := .int) (C := RX2) (T := TX2) (N := 12) hx hb hw inB_X2 tyX2 tyX2_ok nmX2 hown hE.K hP hD hS 0 rfl rfl 10 (by decide) (hw _ bw1173) (fun _ h9 => h9) rfl (by decide +kernel) rfl rfl (Nat.le_of_ble_eq_true rfl) dX2_refuse_7 (fun H locs hP hD hS => ?_)
  have hP : va_P (gD G) vwCl (wM G b ((mth T), (my T), (mm T), (md T), (mt T), (upd (T.2.2.2.2.2) 5 ((mi T 5) + (1 : Int32))))) H := hP
  have hD : va_D A (wM G b ((mth T), (my T), (mm T), (md T), (mt T), (upd (T.2.2.2.2.2) 5 ((mi T 5) + (1 : Int32))))) := hD
  refine lv_bipush (v := (-9 : Int32)) hx hb dX2_refuse_10 (by decide) ?_
  exact we_i (wf := wM G b) hx hb hr hk hP hD hS (Nat.le_of_ble_eq_true rfl) (Nat.le_of_ble_eq_true rfl) dX2_refuse_12 rfl

