set_option maxRecDepth 100000 in
set_option maxHeartbeats 4000000 in
theorem dLoop1 {p : Program} {l : Launch} {e : Env} {s : State} {m : MethodId} {below : List Frame} {meth : Method} {c : Code} {Q : State → Prop} {G : GT} {p0 : Int64} (C : CallFix p m c cX2_dateOf 6 s [Value.long p0].toArray BW RX2) (hE : EV G s s.heap) : ∀ (n : Nat) (r : Int64) (y : Int32) (r1 : Int64) (y1 : Int32), dYok n r y → dYl n r y = (r1, y1) → ∀ ls : Array Slot, lv_has ls 6 [(2, .long r), (4, .int y), (0, .long p0)] → (∀ ls : Array Slot, lv_has ls 6 [(2, .long r1), (4, .int y1), (0, .long p0)] → W p l e (rmK 6 1 3) s m [Value.long p0].toArray below meth c s.heap [] 0 0 Q (F0 m 58 ls [])) → W p l e (rmK 6 1 3) s m [Value.long p0].toArray below meth c s.heap [] 0 0 Q (F0 m 32 ls []) := by
  have hx := C.1
  have hb := C.2.1
  have hown := C.2.2.2.1
  have hw := C.2.2.2.2
  intro n
  induction n with
  | zero => intro r y r1 y1 hok; exact hok.elim
  | succ n ih =>
    intro r y r1 y1 hok he ls hl kk
    refine lv_lload_n hx hb dX2_dateOf_32 rfl (lv_at hl 0 rfl) ?_
    refine lv_iload hx hb dX2_dateOf_33 (lv_at hl 1 rfl) ?_
    refine rcSi (as := [.int y]) (rest := [.long r]) C (c_X2_daysOf_ l G y) F_X2_daysOf_ rfl bw1289 bw1290 hE vpn hl.1 dX2_dateOf_35 ⟨Nat.le_of_ble_eq_true rfl, Nat.le_of_ble_eq_true rfl⟩ rfl (Nat.le_of_ble_eq_true rfl) ⟨Nat.zero_le _, Nat.zero_le _⟩ ?_
    refine lv_i2l (v := ((fX2_daysOf_ y).toInt64)) hx hb dX2_dateOf_38 (by first | rfl | decide) ?_
    refine W.lcmp hx hb dX2_dateOf_39 ?_
    refine lv_if_lt (tgt := 58) hx hb dX2_dateOf_40 (by decide) (fun c_1 => ?_) (fun c_1 => ?_)
    · have e9 : (r, y) = (r1, y1) := Eq.trans (if_pos c_1).symm he
      cases e9
      exact kk ls (lv_sub hl [0, 1, 2] rfl)
    · refine lv_lload_n hx hb dX2_dateOf_43 rfl (lv_at hl 0 rfl) ?_
      refine lv_iload hx hb dX2_dateOf_44 (lv_at hl 1 rfl) ?_
      refine rcSi (as := [.int y]) (rest := [.long r]) C (c_X2_daysOf_ l G y) F_X2_daysOf_ rfl bw1289 bw1290 hE vpn hl.1 dX2_dateOf_46 ⟨Nat.le_of_ble_eq_true rfl, Nat.le_of_ble_eq_true rfl⟩ rfl (Nat.le_of_ble_eq_true rfl) ⟨Nat.zero_le _, Nat.zero_le _⟩ ?_
      refine lv_i2l (v := ((fX2_daysOf_ y).toInt64)) hx hb dX2_dateOf_49 (by first | rfl | decide) ?_
      refine lv_lsub hx hb dX2_dateOf_50 ?_
      refine lv_lstore_n (lv' := [(2, .long (r - ((fX2_daysOf_ y).toInt64))), (4, .int y), (0, .long p0)]) hx hb dX2_dateOf_51 rfl hl (Nat.le_of_ble_eq_true rfl) rfl (fun ls hl => ?_)
      refine lv_iinc (v := (y + (1 : Int32))) (lv' := [(4, .int (y + (1 : Int32))), (2, .long (r - ((fX2_daysOf_ y).toInt64))), (0, .long p0)]) hx hb dX2_dateOf_52 hl (k := 1) rfl (by first | rfl | decide) (Nat.le_of_ble_eq_true rfl) rfl (fun ls hl => ?_)
      refine lv_goto (tgt := 32) hx hb dX2_dateOf_55 (by decide) ?_
      exact ih _ _ _ _ (hok c_1) (Eq.trans (if_neg c_1).symm he) ls (lv_sub hl [1, 0, 2] rfl) kk

set_option maxRecDepth 100000 in
set_option maxHeartbeats 4000000 in
theorem dLoop2 {p : Program} {l : Launch} {e : Env} {s : State} {m : MethodId} {below : List Frame} {meth : Method} {c : Code} {Q : State → Prop} {G : GT} {p0 : Int64} (C : CallFix p m c cX2_dateOf 6 s [Value.long p0].toArray BW RX2) (hE : EV G s s.heap) {y : Int32} : ∀ (n : Nat) (r : Int64) (mo : Int32) (r2 : Int64) (m2 : Int32), dMok n r y mo → dMl n r y mo = (r2, m2) → ∀ ls : Array Slot, lv_has ls 6 [(5, .int mo), (2, .long r), (4, .int y), (0, .long p0)] → (∀ ls : Array Slot, lv_has ls 6 [(5, .int m2), (2, .long r2), (4, .int y), (0, .long p0)] → W p l e (rmK 6 1 3) s m [Value.long p0].toArray below meth c s.heap [] 0 0 Q (F0 m 91 ls [])) → W p l e (rmK 6 1 3) s m [Value.long p0].toArray below meth c s.heap [] 0 0 Q (F0 m 61 ls []) := by
  have hx := C.1
  have hb := C.2.1
  have hown := C.2.2.2.1
  have hw := C.2.2.2.2
  intro n
  induction n with
  | zero => intro r mo r2 m2 hok; exact hok.elim
  | succ n ih =>
    intro r mo r2 m2 hok he ls hl kk
    refine lv_lload_n hx hb dX2_dateOf_61 rfl (lv_at hl 1 rfl) ?_
    refine lv_iload hx hb dX2_dateOf_62 (lv_at hl 2 rfl) ?_
    refine lv_iload hx hb dX2_dateOf_64 (lv_at hl 0 rfl) ?_
    refine rcSi (as := [.int y, .int mo]) (rest := [.long r]) C (c_X2_daysOf l G y mo) F_X2_daysOf rfl bw1223 bw1224 hE vpn hl.1 dX2_dateOf_66 ⟨Nat.le_of_ble_eq_true rfl, Nat.le_of_ble_eq_true rfl⟩ rfl (Nat.le_of_ble_eq_true rfl) ⟨Nat.zero_le _, Nat.zero_le _⟩ ?_
    refine lv_i2l (v := ((fX2_daysOf y mo).toInt64)) hx hb dX2_dateOf_69 (by first | rfl | decide) ?_
    refine W.lcmp hx hb dX2_dateOf_70 ?_
    refine lv_if_lt (tgt := 91) hx hb dX2_dateOf_71 (by decide) (fun c_1 => ?_) (fun c_1 => ?_)
    · have e9 : (r, mo) = (r2, m2) := Eq.trans (if_pos c_1).symm he
      cases e9
      exact kk ls (lv_sub hl [0, 1, 2, 3] rfl)
    · refine lv_lload_n hx hb dX2_dateOf_74 rfl (lv_at hl 1 rfl) ?_
      refine lv_iload hx hb dX2_dateOf_75 (lv_at hl 2 rfl) ?_
      refine lv_iload hx hb dX2_dateOf_77 (lv_at hl 0 rfl) ?_
      refine rcSi (as := [.int y, .int mo]) (rest := [.long r]) C (c_X2_daysOf l G y mo) F_X2_daysOf rfl bw1223 bw1224 hE vpn hl.1 dX2_dateOf_79 ⟨Nat.le_of_ble_eq_true rfl, Nat.le_of_ble_eq_true rfl⟩ rfl (Nat.le_of_ble_eq_true rfl) ⟨Nat.zero_le _, Nat.zero_le _⟩ ?_
      refine lv_i2l (v := ((fX2_daysOf y mo).toInt64)) hx hb dX2_dateOf_82 (by first | rfl | decide) ?_
      refine lv_lsub hx hb dX2_dateOf_83 ?_
      refine lv_lstore_n (lv' := [(2, .long (r - ((fX2_daysOf y mo).toInt64))), (5, .int mo), (4, .int y), (0, .long p0)]) hx hb dX2_dateOf_84 rfl hl (Nat.le_of_ble_eq_true rfl) rfl (fun ls hl => ?_)
      refine lv_iinc (v := (mo + (1 : Int32))) (lv' := [(5, .int (mo + (1 : Int32))), (2, .long (r - ((fX2_daysOf y mo).toInt64))), (4, .int y), (0, .long p0)]) hx hb dX2_dateOf_85 hl (k := 1) rfl (by first | rfl | decide) (Nat.le_of_ble_eq_true rfl) rfl (fun ls hl => ?_)
      refine lv_goto (tgt := 61) hx hb dX2_dateOf_88 (by decide) ?_
      exact ih _ _ _ _ (hok c_1) (Eq.trans (if_neg c_1).symm he) ls (lv_sub hl [0, 1, 2, 3] rfl) kk

set_option maxRecDepth 100000 in
set_option maxHeartbeats 4000000 in
theorem c_X2_dateOf (l : Launch) (G : GT) (p0 : Int64) (n1 n2 : Nat) (r1 : Int64) (y1 : Int32) (r2 : Int64) (m2 : Int32) (h1 : dYok n1 (dR0 p0) (dY0 p0)) (e1 : dYl n1 (dR0 p0) (dY0 p0) = (r1, y1)) (h2 : dMok n2 r1 y1 1) (e2 : dMl n2 r1 y1 1 = (r2, m2)) : MK l G yX2_dateOf cX2_dateOf 6 (some (.array .int)) 6 1 3 [.long p0] [] (fun q H => va_P (gD G) vwCl [(q, .inl (gC G 0, 3, .inl (upd (upd (upd (fun _ => 0) 0 y1) 1 m2) 2 (r2.toInt32 + 1))))] H) := by
  refine MK.ofW (own := RX2) rfl (plainFor_of_name pnN_RX2) (Nat.le_of_ble_eq_true rfl) ?_
  intro p e s m below meth c C hr hk hE hP hS ls hl
  have hx := C.1
  have hb := C.2.1
  have hown := C.2.2.2.1
  have hw := C.2.2.2.2
  have hl : lv_has ls 6 [(0, .long p0)] := hl
  refine lv_lload_n hx hb dX2_dateOf_0 rfl (lv_at hl 0 rfl) ?_
  refine lv_ldc2 (v := (1970 : Int64)) hx hb hown (hw _ bw1267) dX2_dateOf_1 ?_
  refine rcSl (as := [.long (1970 : Int64)]) (rest := [.long p0]) C (c_X2_ahead l G (1970 : Int64)) F_X2_ahead rfl bw1254 bw1255 hE vpn hl.1 dX2_dateOf_4 ⟨Nat.le_of_ble_eq_true rfl, Nat.le_of_ble_eq_true rfl⟩ rfl (Nat.le_of_ble_eq_true rfl) ⟨Nat.zero_le _, Nat.zero_le _⟩ ?_
  refine lv_ladd hx hb dX2_dateOf_7 ?_
  refine lv_lstore_n (lv' := [(2, .long (p0 + (fX2_ahead (1970 : Int64)))), (0, .long p0)]) hx hb dX2_dateOf_8 rfl hl (Nat.le_of_ble_eq_true rfl) rfl (fun ls hl => ?_)
  refine lv_ldc2 (v := (400 : Int64)) hx hb hown (hw _ bw1266) dX2_dateOf_9 ?_
  refine lv_lload_n hx hb dX2_dateOf_12 rfl (lv_at hl 0 rfl) ?_
  refine lv_ldc2 (v := (146097 : Int64)) hx hb hown (hw _ bw1288) dX2_dateOf_13 ?_
  refine rcSl (as := [.long (p0 + (fX2_ahead (1970 : Int64))), .long (146097 : Int64)]) (rest := [.long (400 : Int64)]) C (c_X2_floor l G (p0 + (fX2_ahead (1970 : Int64))) (146097 : Int64) (by decide)) F_X2_floor rfl bw1260 bw1261 hE vpn hl.1 dX2_dateOf_16 ⟨Nat.le_of_ble_eq_true rfl, Nat.le_of_ble_eq_true rfl⟩ rfl (Nat.le_of_ble_eq_true rfl) ⟨Nat.zero_le _, Nat.zero_le _⟩ ?_
  refine lv_lmul hx hb dX2_dateOf_19 ?_
  refine lv_l2i (v := (((400 : Int64) * (fX2_floor (p0 + (fX2_ahead (1970 : Int64))) (146097 : Int64))).toInt32)) hx hb dX2_dateOf_20 (by first | rfl | decide) ?_
  refine lv_istore (lv' := [(4, .int (((400 : Int64) * (fX2_floor (p0 + (fX2_ahead (1970 : Int64))) (146097 : Int64))).toInt32)), (2, .long (p0 + (fX2_ahead (1970 : Int64)))), (0, .long p0)]) hx hb dX2_dateOf_21 hl (Nat.le_of_ble_eq_true rfl) rfl (fun ls hl => ?_)
  refine lv_lload_n hx hb dX2_dateOf_23 rfl (lv_at hl 1 rfl) ?_
  refine lv_iload hx hb dX2_dateOf_24 (lv_at hl 0 rfl) ?_
  refine lv_i2l (v := ((((400 : Int64) * (fX2_floor (p0 + (fX2_ahead (1970 : Int64))) (146097 : Int64))).toInt32).toInt64)) hx hb dX2_dateOf_26 (by first | rfl | decide) ?_
  refine rcSl (as := [.long ((((400 : Int64) * (fX2_floor (p0 + (fX2_ahead (1970 : Int64))) (146097 : Int64))).toInt32).toInt64)]) (rest := [.long (p0 + (fX2_ahead (1970 : Int64)))]) C (c_X2_ahead l G ((((400 : Int64) * (fX2_floor (p0 + (fX2_ahead (1970 : Int64))) (146097 : Int64))).toInt32).toInt64)) F_X2_ahead rfl bw1254 bw1255 hE vpn hl.1 dX2_dateOf_27 ⟨Nat.le_of_ble_eq_true rfl, Nat.le_of_ble_eq_true rfl⟩ rfl (Nat.le_of_ble_eq_true rfl) ⟨Nat.zero_le _, Nat.zero_le _⟩ ?_
  refine lv_lsub hx hb dX2_dateOf_30 ?_
  refine lv_lstore_n (lv' := [(2, .long ((p0 + (fX2_ahead (1970 : Int64))) - (fX2_ahead ((((400 : Int64) * (fX2_floor (p0 + (fX2_ahead (1970 : Int64))) (146097 : Int64))).toInt32).toInt64)))), (4, .int (((400 : Int64) * (fX2_floor (p0 + (fX2_ahead (1970 : Int64))) (146097 : Int64))).toInt32)), (0, .long p0)]) hx hb dX2_dateOf_31 rfl hl (Nat.le_of_ble_eq_true rfl) rfl (fun ls hl => ?_)
  refine dLoop1 C hE n1 (dR0 p0) (dY0 p0) r1 y1 h1 e1 ls (lv_sub hl [0, 1, 2] rfl) (fun ls hl => ?_)
  refine lv_iconst (v := (1 : Int32)) hx hb dX2_dateOf_58 qi_1 ?_
  refine lv_istore (lv' := [(5, .int (1 : Int32)), (2, .long r1), (4, .int y1), (0, .long p0)]) hx hb dX2_dateOf_59 hl (Nat.le_of_ble_eq_true rfl) rfl (fun ls hl => ?_)
  refine dLoop2 C hE n2 r1 1 r2 m2 h2 e2 ls (lv_sub hl [0, 1, 2, 3] rfl) (fun ls hl => ?_)
  refine lv_iconst (v := (3 : Int32)) hx hb dX2_dateOf_91 qi_3 ?_
  refine va_newa (D := gD G) (cl := vwCl) (tys := gT G) (ws := []) (atype := .int) (a0 := (3, .inl (fun _ => 0))) (N' := 3) hx hb (hw _ bw131) rfl hE.K vpn (vdn _) hS (fun q h => h) (fun cA => rfl) (by decide) (by decide) (by decide) (Nat.le_of_ble_eq_true rfl) (Nat.le_of_ble_eq_true rfl) dX2_dateOf_92 (fun q cA H hK hP hD hS => ?_)
  obtain rfl := hE.c0 (hK.2 3 _ rfl).2
  have hP : va_P (gD G) vwCl [(q, .inl (gC G 0, 3, .inl (fun _ => 0)))] H := hP
  have hD : va_D (fun x => s.heap.size ≤ x) [(q, .inl (gC G 0, 3, .inl (fun _ => 0)))] := hD
  refine lv_dup hx hb dX2_dateOf_94 rfl ?_
  refine lv_iconst (v := (0 : Int32)) hx hb dX2_dateOf_95 qi_0 ?_
  refine lv_iload hx hb dX2_dateOf_96 (lv_at hl 2 rfl) ?_
  refine va_iast (tys := gT G) hx hb hE.K hP hD hS 0 0 rfl rfl (vp_in_lit 0) dX2_dateOf_98 (fun H locs hP hD hS => ?_)
  have hP : va_P (gD G) vwCl [(q, .inl (gC G 0, 3, .inl (upd (fun _ => 0) 0 y1)))] H := hP
  have hD : va_D (fun x => s.heap.size ≤ x) [(q, .inl (gC G 0, 3, .inl (upd (fun _ => 0) 0 y1)))] := hD
  refine lv_dup hx hb dX2_dateOf_99 rfl ?_
  refine lv_iconst (v := (1 : Int32)) hx hb dX2_dateOf_100 qi_1 ?_
  refine lv_iload hx hb dX2_dateOf_101 (lv_at hl 0 rfl) ?_
  refine va_iast (tys := gT G) hx hb hE.K hP hD hS 0 0 rfl rfl (vp_in_lit 1) dX2_dateOf_103 (fun H locs hP hD hS => ?_)
  have hP : va_P (gD G) vwCl [(q, .inl (gC G 0, 3, .inl (upd (upd (fun _ => 0) 0 y1) 1 m2)))] H := hP
  have hD : va_D (fun x => s.heap.size ≤ x) [(q, .inl (gC G 0, 3, .inl (upd (upd (fun _ => 0) 0 y1) 1 m2)))] := hD
  refine lv_dup hx hb dX2_dateOf_104 rfl ?_
  refine lv_iconst (v := (2 : Int32)) hx hb dX2_dateOf_105 qi_2 ?_
  refine lv_lload_n hx hb dX2_dateOf_106 rfl (lv_at hl 1 rfl) ?_
  refine lv_l2i (v := (r2.toInt32)) hx hb dX2_dateOf_107 (by first | rfl | decide) ?_
  refine lv_iconst (v := (1 : Int32)) hx hb dX2_dateOf_108 qi_1 ?_
  refine lv_iadd hx hb dX2_dateOf_109 ?_
  refine va_iast (tys := gT G) hx hb hE.K hP hD hS 0 0 rfl rfl (vp_in_lit 2) dX2_dateOf_110 (fun H locs hP hD hS => ?_)
  have hP : va_P (gD G) vwCl [(q, .inl (gC G 0, 3, .inl (upd (upd (upd (fun _ => 0) 0 y1) 1 m2) 2 ((r2.toInt32) + (1 : Int32)))))] H := hP
  have hD : va_D (fun x => s.heap.size ≤ x) [(q, .inl (gC G 0, 3, .inl (upd (upd (upd (fun _ => 0) 0 y1) 1 m2) 2 ((r2.toInt32) + (1 : Int32)))))] := hD
  exact mk_a hx hb hr (Or.inr ⟨_, rfl⟩) hk hP hS (Nat.le_of_ble_eq_true rfl) (Nat.le_of_ble_eq_true rfl) dX2_dateOf_111

set_option maxRecDepth 100000 in
set_option maxHeartbeats 4000000 in
theorem c_X2_refuses (l : Launch) (G : GT) (b : Nat → Nat) (T : SM) (p0 : Int32) (p1 : Int32) : WR l G yX2_refuses cX2_refuses 3 (some .boolean) 1 0 0 [.ref (b 0), .int p0, .int p1] (wM G b T) (wM G b (gX2_refuses T p0 p1).2) (some (.int (gX2_refuses T p0 p1).1)) := by
  refine WR.ofW (own := RX2) rfl (plainFor_of_name pnN_RX2) (Nat.le_of_ble_eq_true rfl) ?_
  intro p e s m below meth c A C hr hk hnm hE hP hD hA hAB hS ls hl
  have hx := C.1
  have hb := C.2.1
  have hown := C.2.2.2.1
  have hw := C.2.2.2.2
  have hl : lv_has ls 3 [(0, .ref (b 0)), (1, .int p0), (2, .int p1)] := hl
  refine lv_aload_n hx hb dX2_refuses_0 rfl (lv_at hl 0 rfl) ?_
  refine lv_iload_n hx hb dX2_refuses_1 rfl (lv_at hl 1 rfl) ?_
  refine lv_if_eq (tgt := 9) hx hb dX2_refuses_2 (by decide) (fun c_1 => ?_) (fun c_1 => ?_)
  · refine lv_iload_n hx hb dX2_refuses_9 rfl (lv_at hl 2 rfl) ?_
    refine lv_if_eq (tgt := 17) hx hb dX2_refuses_10 (by decide) (fun c_2 => ?_) (fun c_2 => ?_)
    · refine lv_iconst (v := (0 : Int32)) hx hb dX2_refuses_17 qi_0 ?_
      refine va_put (D := gD G) (cl := vwCl) (tys := gT G) (ci := 4) (v := .int (0 : Int32)) (ty := .int) (C := RX2) (T := TX2) (N := 12) hx hb hw inB_X2 tyX2 tyX2_ok nmX2 hown hE.K hP hD hS 0 rfl rfl 0 (by decide) (hw _ bw1163) (fun _ h9 => h9) rfl (by decide +kernel) rfl rfl (Nat.le_of_ble_eq_true rfl) dX2_refuses_18 (fun H locs hP hD hS => ?_)
      have hP : va_P (gD G) vwCl (wM G b ((0 : Int32), (my T), (mm T), (md T), (mt T), (T.2.2.2.2.2))) H := hP
      have hD : va_D A (wM G b ((0 : Int32), (my T), (mm T), (md T), (mt T), (T.2.2.2.2.2))) := hD
      refine lv_aload_n hx hb dX2_refuses_21 rfl (lv_at hl 0 rfl) ?_
      refine va_get (D := gD G) (cl := vwCl) (tys := gT G) (ci := 4) (v := .int (0 : Int32)) (C := RX2) (T := TX2) (N := 12) hx hb hw inB_X2 hown hE.K hP 0 rfl rfl 0 (by decide) (hw _ bw1163) (fun _ h9 => h9) rfl dX2_refuses_22 ?_
      refine lv_if_le (tgt := 32) hx hb dX2_refuses_25 (by decide) (fun _ => ?_) (fun c_x => absurd (show (0 : Int32) ≤ 0 from by decide) c_x)
      refine lv_iconst (v := (0 : Int32)) hx hb dX2_refuses_32 qi_0 ?_
      exact we_z (ty := .boolean) (wf := wM G b) hx hb hr hk (by decide) hP hD hS (Nat.le_of_ble_eq_true rfl) (Nat.le_of_ble_eq_true rfl) dX2_refuses_33 (by simp [gX2_refuses, frf, fth, c_1, c_2])
    · refine lv_iconst (v := (2 : Int32)) hx hb dX2_refuses_13 qi_2 ?_
      refine lv_goto (tgt := 18) hx hb dX2_refuses_14 (by decide) ?_
      refine va_put (D := gD G) (cl := vwCl) (tys := gT G) (ci := 4) (v := .int (2 : Int32)) (ty := .int) (C := RX2) (T := TX2) (N := 12) hx hb hw inB_X2 tyX2 tyX2_ok nmX2 hown hE.K hP hD hS 0 rfl rfl 0 (by decide) (hw _ bw1163) (fun _ h9 => h9) rfl (by decide +kernel) rfl rfl (Nat.le_of_ble_eq_true rfl) dX2_refuses_18 (fun H locs hP hD hS => ?_)
      have hP : va_P (gD G) vwCl (wM G b ((2 : Int32), (my T), (mm T), (md T), (mt T), (T.2.2.2.2.2))) H := hP
      have hD : va_D A (wM G b ((2 : Int32), (my T), (mm T), (md T), (mt T), (T.2.2.2.2.2))) := hD
      refine lv_aload_n hx hb dX2_refuses_21 rfl (lv_at hl 0 rfl) ?_
      refine va_get (D := gD G) (cl := vwCl) (tys := gT G) (ci := 4) (v := .int (2 : Int32)) (C := RX2) (T := TX2) (N := 12) hx hb hw inB_X2 hown hE.K hP 0 rfl rfl 0 (by decide) (hw _ bw1163) (fun _ h9 => h9) rfl dX2_refuses_22 ?_
      refine lv_if_le (tgt := 32) hx hb dX2_refuses_25 (by decide) (fun c_x => absurd c_x (by decide)) (fun _ => ?_)
      refine lv_iconst (v := (1 : Int32)) hx hb dX2_refuses_28 qi_1 ?_
      refine lv_goto (tgt := 33) hx hb dX2_refuses_29 (by decide) ?_
      exact we_z (ty := .boolean) (wf := wM G b) hx hb hr hk (by decide) hP hD hS (Nat.le_of_ble_eq_true rfl) (Nat.le_of_ble_eq_true rfl) dX2_refuses_33 (by simp [gX2_refuses, frf, fth, c_1, c_2])
  · refine lv_iconst (v := (1 : Int32)) hx hb dX2_refuses_5 qi_1 ?_
    refine lv_goto (tgt := 18) hx hb dX2_refuses_6 (by decide) ?_
    refine va_put (D := gD G) (cl := vwCl) (tys := gT G) (ci := 4) (v := .int (1 : Int32)) (ty := .int) (C := RX2) (T := TX2) (N := 12) hx hb hw inB_X2 tyX2 tyX2_ok nmX2 hown hE.K hP hD hS 0 rfl rfl 0 (by decide) (hw _ bw1163) (fun _ h9 => h9) rfl (by decide +kernel) rfl rfl (Nat.le_of_ble_eq_true rfl) dX2_refuses_18 (fun H locs hP hD hS => ?_)
    have hP : va_P (gD G) vwCl (wM G b ((1 : Int32), (my T), (mm T), (md T), (mt T), (T.2.2.2.2.2))) H := hP
    have hD : va_D A (wM G b ((1 : Int32), (my T), (mm T), (md T), (mt T), (T.2.2.2.2.2))) := hD
    refine lv_aload_n hx hb dX2_refuses_21 rfl (lv_at hl 0 rfl) ?_
    refine va_get (D := gD G) (cl := vwCl) (tys := gT G) (ci := 4) (v := .int (1 : Int32)) (C := RX2) (T := TX2) (N := 12) hx hb hw inB_X2 hown hE.K hP 0 rfl rfl 0 (by decide) (hw _ bw1163) (fun _ h9 => h9) rfl dX2_refuses_22 ?_
    refine lv_if_le (tgt := 32) hx hb dX2_refuses_25 (by decide) (fun c_x => absurd c_x (by decide)) (fun _ => ?_)
    refine lv_iconst (v := (1 : Int32)) hx hb dX2_refuses_28 qi_1 ?_
    refine lv_goto (tgt := 33) hx hb dX2_refuses_29 (by decide) ?_
    exact we_z (ty := .boolean) (wf := wM G b) hx hb hr hk (by decide) hP hD hS (Nat.le_of_ble_eq_true rfl) (Nat.le_of_ble_eq_true rfl) dX2_refuses_33 (by simp [gX2_refuses, frf, fth, c_1])

set_option maxRecDepth 100000 in
set_option maxHeartbeats 4000000 in
theorem c_X2_refuse (l : Launch) (G : GT) (b : Nat → Nat) (T : SM) : WR l G yX2_refuse cX2_refuse 1 (some .int) 1 0 0 [.ref (b 0)] (wM G b T) (wM G b (gX2_refuse T).2) (some (.int (gX2_refuse T).1)) := by
  refine WR.ofW (own := RX2) rfl (plainFor_of_name pnN_RX2) (Nat.le_of_ble_eq_true rfl) ?_
  intro p e s m below meth c A C hr hk hnm hE hP hD hA hAB hS ls hl
  have hx := C.1
  have hb := C.2.1
  have hown := C.2.2.2.1
  have hw := C.2.2.2.2
  have hl : lv_has ls 1 [(0, .ref (b 0))] := hl
  refine lv_aload_n hx hb dX2_refuse_0 rfl (lv_at hl 0 rfl) ?_
  refine lv_dup hx hb dX2_refuse_1 rfl ?_
  refine va_get (D := gD G) (cl := vwCl) (tys := gT G) (ci := 4) (v := .int (mi T 5)) (C := RX2) (T := TX2) (N := 12) hx hb hw inB_X2 hown hE.K hP 0 rfl rfl 10 (by decide) (hw _ bw1173) (fun _ h9 => h9) rfl dX2_refuse_2 ?_
  refine lv_iconst (v := (1 : Int32)) hx hb dX2_refuse_5 qi_1 ?_
  refine lv_iadd hx hb dX2_refuse_6 ?_
  refine va_put (D := gD G) (cl := vwCl) (tys := gT G) (ci := 4) (v := .int ((mi T 5) + (1 : Int32))) (ty := .int) (C := RX2) (T := TX2) (N := 12) hx hb hw inB_X2 tyX2 tyX2_ok nmX2 hown hE.K hP hD hS 0 rfl rfl 10 (by decide) (hw _ bw1173) (fun _ h9 => h9) rfl (by decide +kernel) rfl rfl (Nat.le_of_ble_eq_true rfl) dX2_refuse_7 (fun H locs hP hD hS => ?_)
  have hP : va_P (gD G) vwCl (wM G b ((mth T), (my T), (mm T), (md T), (mt T), (upd (T.2.2.2.2.2) 5 ((mi T 5) + (1 : Int32))))) H := hP
  have hD : va_D A (wM G b ((mth T), (my T), (mm T), (md T), (mt T), (upd (T.2.2.2.2.2) 5 ((mi T 5) + (1 : Int32))))) := hD
  refine lv_bipush (v := (-9 : Int32)) hx hb dX2_refuse_10 qb_m9 ?_
  exact we_i (wf := wM G b) hx hb hr hk hP hD hS (Nat.le_of_ble_eq_true rfl) (Nat.le_of_ble_eq_true rfl) dX2_refuse_12 rfl

set_option maxRecDepth 100000 in
set_option maxHeartbeats 4000000 in
theorem c_X2_become (l : Launch) (G : GT) (b : Nat → Nat) (T : SM) (p0 : Int32) (p1 : Int32) (p2 : Int32) (p3 : Int32) (p4 : Int64) (h0 : vp_in p0 6) (hT : MO T) (hm : p2 ≤ (12 : Int32)) : WR l G yX2_become cX2_become 7 (some .int) 7 0 0 [.ref (b 0), .int p0, .int p1, .int p2, .int p3, .long p4] (wM G b T) (wM G b (gX2_become T p0 p1 p2 p3 p4).2) (some (.int (gX2_become T p0 p1 p2 p3 p4).1)) := by
  refine WR.ofW (own := RX2) rfl (plainFor_of_name pnN_RX2) (Nat.le_of_ble_eq_true rfl) ?_
  intro p e s m below meth c A C hr hk hnm hE hP hD hA hAB hS ls hl
  have hx := C.1
  have hb := C.2.1
  have hown := C.2.2.2.1
  have hw := C.2.2.2.2
  have hl : lv_has ls 7 [(0, .ref (b 0)), (1, .int p0), (2, .int p1), (3, .int p2), (4, .int p3), (5, .long p4)] := hl
  refine lv_aload_n hx hb dX2_become_0 rfl (lv_at hl 0 rfl) ?_
  refine va_get (D := gD G) (cl := vwCl) (tys := gT G) (ci := 4) (v := .ref (b 1)) (C := RX2) (T := TX2) (N := 12) hx hb hw inB_X2 hown hE.K hP 0 rfl rfl 1 (by decide) (hw _ bw1164) (fun _ h9 => h9) rfl dX2_become_1 ?_
  refine lv_iload_n hx hb dX2_become_4 rfl (lv_at hl 1 rfl) ?_
  refine lv_iload_n hx hb dX2_become_5 rfl (lv_at hl 2 rfl) ?_
  refine va_iast (tys := gT G) hx hb hE.K hP hD hS 1 0 rfl rfl h0 dX2_become_6 (fun H locs hP hD hS => ?_)
  have hP : va_P (gD G) vwCl (wM G b ((mth T), (upd (my T) p0.toNatClampNeg p1), (mm T), (md T), (mt T), (T.2.2.2.2.2))) H := hP
  have hD : va_D A (wM G b ((mth T), (upd (my T) p0.toNatClampNeg p1), (mm T), (md T), (mt T), (T.2.2.2.2.2))) := hD
  refine lv_aload_n hx hb dX2_become_7 rfl (lv_at hl 0 rfl) ?_
  refine va_get (D := gD G) (cl := vwCl) (tys := gT G) (ci := 4) (v := .ref (b 2)) (C := RX2) (T := TX2) (N := 12) hx hb hw inB_X2 hown hE.K hP 0 rfl rfl 2 (by decide) (hw _ bw1165) (fun _ h9 => h9) rfl dX2_become_8 ?_
  refine lv_iload_n hx hb dX2_become_11 rfl (lv_at hl 1 rfl) ?_
  refine lv_iload_n hx hb dX2_become_12 rfl (lv_at hl 3 rfl) ?_
  refine va_iast (tys := gT G) hx hb hE.K hP hD hS 2 0 rfl rfl h0 dX2_become_13 (fun H locs hP hD hS => ?_)
  have hP : va_P (gD G) vwCl (wM G b ((mth T), (upd (my T) p0.toNatClampNeg p1), (upd (mm T) p0.toNatClampNeg p2), (md T), (mt T), (T.2.2.2.2.2))) H := hP
  have hD : va_D A (wM G b ((mth T), (upd (my T) p0.toNatClampNeg p1), (upd (mm T) p0.toNatClampNeg p2), (md T), (mt T), (T.2.2.2.2.2))) := hD
  refine lv_aload_n hx hb dX2_become_14 rfl (lv_at hl 0 rfl) ?_
  refine va_get (D := gD G) (cl := vwCl) (tys := gT G) (ci := 4) (v := .ref (b 3)) (C := RX2) (T := TX2) (N := 12) hx hb hw inB_X2 hown hE.K hP 0 rfl rfl 3 (by decide) (hw _ bw1166) (fun _ h9 => h9) rfl dX2_become_15 ?_
  refine lv_iload_n hx hb dX2_become_18 rfl (lv_at hl 1 rfl) ?_
  refine lv_iload hx hb dX2_become_19 (lv_at hl 4 rfl) ?_
  refine va_iast (tys := gT G) hx hb hE.K hP hD hS 3 0 rfl rfl h0 dX2_become_21 (fun H locs hP hD hS => ?_)
  have hP : va_P (gD G) vwCl (wM G b ((mth T), (upd (my T) p0.toNatClampNeg p1), (upd (mm T) p0.toNatClampNeg p2), (upd (md T) p0.toNatClampNeg p3), (mt T), (T.2.2.2.2.2))) H := hP
  have hD : va_D A (wM G b ((mth T), (upd (my T) p0.toNatClampNeg p1), (upd (mm T) p0.toNatClampNeg p2), (upd (md T) p0.toNatClampNeg p3), (mt T), (T.2.2.2.2.2))) := hD
  refine lv_aload_n hx hb dX2_become_22 rfl (lv_at hl 0 rfl) ?_
  refine va_get (D := gD G) (cl := vwCl) (tys := gT G) (ci := 4) (v := .ref (b 4)) (C := RX2) (T := TX2) (N := 12) hx hb hw inB_X2 hown hE.K hP 0 rfl rfl 4 (by decide) (hw _ bw1167) (fun _ h9 => h9) rfl dX2_become_23 ?_
  refine lv_iload_n hx hb dX2_become_26 rfl (lv_at hl 1 rfl) ?_
  refine lv_lload hx hb dX2_become_27 (lv_at hl 5 rfl) ?_
  refine va_last (tys := gT G) hx hb hE.K hP hD hS 4 1 rfl rfl h0 dX2_become_29 (fun H locs hP hD hS => ?_)
  have hP : va_P (gD G) vwCl (wM G b ((mth T), (upd (my T) p0.toNatClampNeg p1), (upd (mm T) p0.toNatClampNeg p2), (upd (md T) p0.toNatClampNeg p3), (vp_updL (mt T) p0.toNatClampNeg p4), (T.2.2.2.2.2))) H := hP
  have hD : va_D A (wM G b ((mth T), (upd (my T) p0.toNatClampNeg p1), (upd (mm T) p0.toNatClampNeg p2), (upd (md T) p0.toNatClampNeg p3), (vp_updL (mt T) p0.toNatClampNeg p4), (T.2.2.2.2.2))) := hD
  refine lv_aload_n hx hb dX2_become_30 rfl (lv_at hl 0 rfl) ?_
  refine lv_dup hx hb dX2_become_31 rfl ?_
  refine va_get (D := gD G) (cl := vwCl) (tys := gT G) (ci := 4) (v := .int (mi T 4)) (C := RX2) (T := TX2) (N := 12) hx hb hw inB_X2 hown hE.K hP 0 rfl rfl 9 (by decide) (hw _ bw1172) (fun _ h9 => h9) rfl dX2_become_32 ?_
  refine lv_iconst (v := (1 : Int32)) hx hb dX2_become_35 qi_1 ?_
  refine lv_iadd hx hb dX2_become_36 ?_
  refine va_put (D := gD G) (cl := vwCl) (tys := gT G) (ci := 4) (v := .int ((mi T 4) + (1 : Int32))) (ty := .int) (C := RX2) (T := TX2) (N := 12) hx hb hw inB_X2 tyX2 tyX2_ok nmX2 hown hE.K hP hD hS 0 rfl rfl 9 (by decide) (hw _ bw1172) (fun _ h9 => h9) rfl (by decide +kernel) rfl rfl (Nat.le_of_ble_eq_true rfl) dX2_become_37 (fun H locs hP hD hS => ?_)
  have hP : va_P (gD G) vwCl (wM G b ((mth T), (upd (my T) p0.toNatClampNeg p1), (upd (mm T) p0.toNatClampNeg p2), (upd (md T) p0.toNatClampNeg p3), (vp_updL (mt T) p0.toNatClampNeg p4), (upd (T.2.2.2.2.2) 4 ((mi T 4) + (1 : Int32))))) H := hP
  have hD : va_D A (wM G b ((mth T), (upd (my T) p0.toNatClampNeg p1), (upd (mm T) p0.toNatClampNeg p2), (upd (md T) p0.toNatClampNeg p3), (vp_updL (mt T) p0.toNatClampNeg p4), (upd (T.2.2.2.2.2) 4 ((mi T 4) + (1 : Int32))))) := hD
  refine lv_aload_n hx hb dX2_become_40 rfl (lv_at hl 0 rfl) ?_
  refine lv_iload_n hx hb dX2_become_41 rfl (lv_at hl 1 rfl) ?_
  refine rcVi (as := [.int p0]) (rest := []) (cl := RX2) C (c_X2_weekDayNow l G b ((mth T), (upd (my T) p0.toNatClampNeg p1), (upd (mm T) p0.toNatClampNeg p2), (upd (md T) p0.toNatClampNeg p3), (vp_updL (mt T) p0.toNatClampNeg p4), (upd (T.2.2.2.2.2) 4 ((mi T 4) + (1 : Int32)))) p0 h0 (MO.upd hT hm rfl)) F_X2_weekDayNow rfl bw1243 bw1245 bw37 (hE.S hS hAB) hP (rv4 hE.K hP (q0 := 0) rfl) hl.1 dX2_become_42 ⟨Nat.le_of_ble_eq_true rfl, Nat.le_of_ble_eq_true rfl⟩ rfl (Nat.le_of_ble_eq_true rfl) ⟨Nat.le_of_ble_eq_true rfl, Nat.le_of_ble_eq_true rfl⟩ ?_
  exact we_i (wf := wM G b) hx hb hr hk hP hD hS (Nat.le_of_ble_eq_true rfl) (Nat.le_of_ble_eq_true rfl) dX2_become_45 rfl

set_option maxRecDepth 100000 in
set_option maxHeartbeats 4000000 in
theorem c_X2_becomeDay (l : Launch) (G : GT) (b : Nat → Nat) (T : SM) (p0 : Int32) (p1 : Int64) (p2 : Int64) (h0 : vp_in p0 6) (hT : MO T) : WR l G yX2_becomeDay cX2_becomeDay 7 (some .int) 8 1 3 [.ref (b 0), .int p0, .long p1, .long p2] (wM G b T) (wM G b (gX2_becomeDay T p0 p1 p2).2) (some (.int (gX2_becomeDay T p0 p1 p2).1)) := by
  refine WR.ofW (own := RX2) rfl (plainFor_of_name pnN_RX2) (Nat.le_of_ble_eq_true rfl) ?_
  intro p e s m below meth c A C hr hk hnm hE hP hD hA hAB hS ls hl
  have hx := C.1
  have hb := C.2.1
  have hown := C.2.2.2.1
  have hw := C.2.2.2.2
  have hl : lv_has ls 7 [(0, .ref (b 0)), (1, .int p0), (2, .long p1), (4, .long p2)] := hl
  refine lv_lload_n hx hb dX2_becomeDay_0 rfl (lv_at hl 2 rfl) ?_
  refine lv_sipush (v := (-9999 : Int32)) hx hb dX2_becomeDay_1 qs_m9999 ?_
  refine lv_iconst (v := (1 : Int32)) hx hb dX2_becomeDay_4 qi_1 ?_
  refine lv_iconst (v := (1 : Int32)) hx hb dX2_becomeDay_5 qi_1 ?_
  refine rcSl (as := [.int (-9999 : Int32), .int (1 : Int32), .int (1 : Int32)]) (rest := [.long p1]) C (c_X2_dayOf l G (-9999 : Int32) (1 : Int32) (1 : Int32) (by decide)) F_X2_dayOf rfl bw1251 bw1252 (hE.S hS hAB) vpn hl.1 dX2_becomeDay_6 ⟨Nat.le_of_ble_eq_true rfl, Nat.le_of_ble_eq_true rfl⟩ rfl (Nat.le_of_ble_eq_true rfl) ⟨Nat.le_of_ble_eq_true rfl, Nat.le_of_ble_eq_true rfl⟩ ?_
  refine W.lcmp hx hb dX2_becomeDay_9 ?_
  refine lv_if_lt (tgt := 28) hx hb dX2_becomeDay_10 (by decide) (fun c_1 => ?_) (fun c_1 => ?_)
  · refine lv_aload_n hx hb dX2_becomeDay_28 rfl (lv_at hl 0 rfl) ?_
    refine wcVi (as := []) (rest := []) (cl := RX2) C (c_X2_refuse l G b T) F_X2_refuse rfl bw1229 bw1231 bw34 (hE.S hS hAB) hP hD hS hA hAB (rv4 hE.K hP (q0 := 0) rfl) hl.1 dX2_becomeDay_29 ⟨Nat.le_of_ble_eq_true rfl, Nat.le_of_ble_eq_true rfl⟩ rfl (Nat.le_of_ble_eq_true rfl) ⟨Nat.le_of_ble_eq_true rfl, Nat.le_of_ble_eq_true rfl⟩ (fun H locs hP hD hS => ?_)
    exact we_i (wf := wM G b) hx hb hr hk hP hD hS (Nat.le_of_ble_eq_true rfl) (Nat.le_of_ble_eq_true rfl) dX2_becomeDay_32 (if_pos c_1)
  · refine lv_lload_n hx hb dX2_becomeDay_13 rfl (lv_at hl 2 rfl) ?_
    refine lv_sipush (v := (9999 : Int32)) hx hb dX2_becomeDay_14 qs_9999 ?_
    refine lv_bipush (v := (12 : Int32)) hx hb dX2_becomeDay_17 qb_12 ?_
    refine lv_bipush (v := (31 : Int32)) hx hb dX2_becomeDay_19 qb_31 ?_
    refine rcSl (as := [.int (9999 : Int32), .int (12 : Int32), .int (31 : Int32)]) (rest := [.long p1]) C (c_X2_dayOf l G (9999 : Int32) (12 : Int32) (31 : Int32) (by decide)) F_X2_dayOf rfl bw1251 bw1252 (hE.S hS hAB) vpn hl.1 dX2_becomeDay_21 ⟨Nat.le_of_ble_eq_true rfl, Nat.le_of_ble_eq_true rfl⟩ rfl (Nat.le_of_ble_eq_true rfl) ⟨Nat.le_of_ble_eq_true rfl, Nat.le_of_ble_eq_true rfl⟩ ?_
    refine W.lcmp hx hb dX2_becomeDay_24 ?_
    refine lv_if_le (tgt := 33) hx hb dX2_becomeDay_25 (by decide) (fun c_2 => ?_) (fun c_2 => ?_)
    · refine lv_lload_n hx hb dX2_becomeDay_33 rfl (lv_at hl 2 rfl) ?_
      refine mkS (as := [.long p1]) (rest := []) C (c_X2_dateOf l G p1 (fuelY p1) (fuelM p1) _ _ _ _ (dOK c_1 c_2).1 (dE1 _) (dOK c_1 c_2).2.1 (dE2 _)) F_X2_dateOf rfl bw1285 bw1286 (hE.S hS hAB) vpn hP hS hA hl.1 dX2_becomeDay_34 ⟨Nat.le_of_ble_eq_true rfl, Nat.le_of_ble_eq_true rfl⟩ rfl (Nat.le_of_ble_eq_true rfl) ⟨Nat.le_of_ble_eq_true rfl, Nat.le_of_ble_eq_true rfl⟩ (fun qd H locs ho _ hP hPq hS => ?_)
      refine lv_astore (lv' := [(6, .ref qd), (0, .ref (b 0)), (1, .int p0), (2, .long p1), (4, .long p2)]) hx hb dX2_becomeDay_37 hl (Nat.le_of_ble_eq_true rfl) rfl (fun ls hl => ?_)
      refine lv_aload_n hx hb dX2_becomeDay_39 rfl (lv_at hl 1 rfl) ?_
      refine lv_iload_n hx hb dX2_becomeDay_40 rfl (lv_at hl 2 rfl) ?_
      refine lv_aload hx hb dX2_becomeDay_41 (lv_at hl 0 rfl) ?_
      refine lv_iconst (v := (0 : Int32)) hx hb dX2_becomeDay_43 qi_0 ?_
      refine va_iald (D := gD G) (cl := vwCl) (tys := gT G) hx hb hE.K hPq 0 0 rfl rfl (vp_in_lit 0) dX2_becomeDay_44 ?_
      refine k_foldi (y := (fX2_dy p1)) (row3_0 _ _ _) ?_
      refine lv_aload hx hb dX2_becomeDay_45 (lv_at hl 0 rfl) ?_
      refine lv_iconst (v := (1 : Int32)) hx hb dX2_becomeDay_47 qi_1 ?_
      refine va_iald (D := gD G) (cl := vwCl) (tys := gT G) hx hb hE.K hPq 0 0 rfl rfl (vp_in_lit 1) dX2_becomeDay_48 ?_
      refine k_foldi (y := (fX2_dm p1)) (row3_1 _ _ _) ?_
      refine lv_aload hx hb dX2_becomeDay_49 (lv_at hl 0 rfl) ?_
      refine lv_iconst (v := (2 : Int32)) hx hb dX2_becomeDay_51 qi_2 ?_
      refine va_iald (D := gD G) (cl := vwCl) (tys := gT G) hx hb hE.K hPq 0 0 rfl rfl (vp_in_lit 2) dX2_becomeDay_52 ?_
      refine k_foldi (y := ((dR2 p1).toInt32 + 1)) (row3_2 _ _ _) ?_
      refine lv_lload hx hb dX2_becomeDay_53 (lv_at hl 4 rfl) ?_
      refine wcVi (as := [.int p0, .int (fX2_dy p1), .int (fX2_dm p1), .int ((dR2 p1).toInt32 + 1), .long p2]) (rest := []) (cl := RX2) C (c_X2_become l G b T p0 (fX2_dy p1) (fX2_dm p1) ((dR2 p1).toInt32 + 1) p2 h0 hT (dOK c_1 c_2).2.2) F_X2_become rfl bw1239 bw1241 bw36 (hE.S hS hAB) hP hD hS hA hAB (rv4 hE.K hP (q0 := 0) rfl) hl.1 dX2_becomeDay_55 ⟨Nat.le_of_ble_eq_true rfl, Nat.le_of_ble_eq_true rfl⟩ rfl (Nat.le_of_ble_eq_true rfl) ⟨Nat.le_of_ble_eq_true rfl, Nat.le_of_ble_eq_true rfl⟩ (fun H locs hP hD hS => ?_)
      exact we_i (wf := wM G b) hx hb hr hk hP hD hS (Nat.le_of_ble_eq_true rfl) (Nat.le_of_ble_eq_true rfl) dX2_becomeDay_58 (Eq.trans (if_neg c_1) (if_pos c_2))
    · refine lv_aload_n hx hb dX2_becomeDay_28 rfl (lv_at hl 0 rfl) ?_
      refine wcVi (as := []) (rest := []) (cl := RX2) C (c_X2_refuse l G b T) F_X2_refuse rfl bw1229 bw1231 bw34 (hE.S hS hAB) hP hD hS hA hAB (rv4 hE.K hP (q0 := 0) rfl) hl.1 dX2_becomeDay_29 ⟨Nat.le_of_ble_eq_true rfl, Nat.le_of_ble_eq_true rfl⟩ rfl (Nat.le_of_ble_eq_true rfl) ⟨Nat.le_of_ble_eq_true rfl, Nat.le_of_ble_eq_true rfl⟩ (fun H locs hP hD hS => ?_)
      exact we_i (wf := wM G b) hx hb hr hk hP hD hS (Nat.le_of_ble_eq_true rfl) (Nat.le_of_ble_eq_true rfl) dX2_becomeDay_32 (Eq.trans (if_neg c_1) (if_neg c_2))

set_option maxRecDepth 100000 in
set_option maxHeartbeats 4000000 in
theorem c_X2_becomeMonth (l : Launch) (G : GT) (b : Nat → Nat) (T : SM) (p0 : Int32) (p1 : Int64) (p2 : Int32) (h0 : vp_in p0 6) (hT : MO T) (hm : p2 ≤ (12 : Int32)) : WR l G yX2_becomeMonth cX2_becomeMonth 5 (some .int) 8 0 0 [.ref (b 0), .int p0, .long p1, .int p2] (wM G b T) (wM G b (gX2_becomeMonth T p0 p1 p2).2) (some (.int (gX2_becomeMonth T p0 p1 p2).1)) := by
  refine WR.ofW (own := RX2) rfl (plainFor_of_name pnN_RX2) (Nat.le_of_ble_eq_true rfl) ?_
  intro p e s m below meth c A C hr hk hnm hE hP hD hA hAB hS ls hl
  have hx := C.1
  have hb := C.2.1
  have hown := C.2.2.2.1
  have hw := C.2.2.2.2
  have hl : lv_has ls 5 [(0, .ref (b 0)), (1, .int p0), (2, .long p1), (4, .int p2)] := hl
  refine lv_lload_n hx hb dX2_becomeMonth_0 rfl (lv_at hl 2 rfl) ?_
  refine lv_ldc2 (v := (-9999 : Int64)) hx hb hown (hw _ bw1312) dX2_becomeMonth_1 ?_
  refine W.lcmp hx hb dX2_becomeMonth_4 ?_
  refine lv_if_lt (tgt := 16) hx hb dX2_becomeMonth_5 (by decide) (fun c_1 => ?_) (fun c_1 => ?_)
  · refine lv_aload_n hx hb dX2_becomeMonth_16 rfl (lv_at hl 0 rfl) ?_
    refine wcVi (as := []) (rest := []) (cl := RX2) C (c_X2_refuse l G b T) F_X2_refuse rfl bw1229 bw1231 bw34 (hE.S hS hAB) hP hD hS hA hAB (rv4 hE.K hP (q0 := 0) rfl) hl.1 dX2_becomeMonth_17 ⟨Nat.le_of_ble_eq_true rfl, Nat.le_of_ble_eq_true rfl⟩ rfl (Nat.le_of_ble_eq_true rfl) ⟨Nat.le_of_ble_eq_true rfl, Nat.le_of_ble_eq_true rfl⟩ (fun H locs hP hD hS => ?_)
    exact we_i (wf := wM G b) hx hb hr hk hP hD hS (Nat.le_of_ble_eq_true rfl) (Nat.le_of_ble_eq_true rfl) dX2_becomeMonth_20 (if_pos c_1)
  · refine lv_lload_n hx hb dX2_becomeMonth_8 rfl (lv_at hl 2 rfl) ?_
    refine lv_ldc2 (v := (9999 : Int64)) hx hb hown (hw _ bw1313) dX2_becomeMonth_9 ?_
    refine W.lcmp hx hb dX2_becomeMonth_12 ?_
    refine lv_if_le (tgt := 21) hx hb dX2_becomeMonth_13 (by decide) (fun c_2 => ?_) (fun c_2 => ?_)
    · refine lv_aload_n hx hb dX2_becomeMonth_21 rfl (lv_at hl 0 rfl) ?_
      refine lv_iload_n hx hb dX2_becomeMonth_22 rfl (lv_at hl 1 rfl) ?_
      refine lv_lload_n hx hb dX2_becomeMonth_23 rfl (lv_at hl 2 rfl) ?_
      refine lv_l2i (v := (p1.toInt32)) hx hb dX2_becomeMonth_24 (by first | rfl | decide) ?_
      refine lv_iload hx hb dX2_becomeMonth_25 (lv_at hl 3 rfl) ?_
      refine lv_aload_n hx hb dX2_becomeMonth_27 rfl (lv_at hl 0 rfl) ?_
      refine va_get (D := gD G) (cl := vwCl) (tys := gT G) (ci := 4) (v := .ref (b 3)) (C := RX2) (T := TX2) (N := 12) hx hb hw inB_X2 hown hE.K hP 0 rfl rfl 3 (by decide) (hw _ bw1166) (fun _ h9 => h9) rfl dX2_becomeMonth_28 ?_
      refine lv_iload_n hx hb dX2_becomeMonth_31 rfl (lv_at hl 1 rfl) ?_
      refine va_iald (tys := gT G) hx hb hE.K hP 3 0 rfl rfl h0 dX2_becomeMonth_32 ?_
      refine lv_lload_n hx hb dX2_becomeMonth_33 rfl (lv_at hl 2 rfl) ?_
      refine lv_l2i (v := (p1.toInt32)) hx hb dX2_becomeMonth_34 (by first | rfl | decide) ?_
      refine lv_iload hx hb dX2_becomeMonth_35 (lv_at hl 3 rfl) ?_
      refine rcSi (as := [.int (p1.toInt32), .int p2]) (rest := [.int ((md T) p0.toNatClampNeg), .int p2, .int (p1.toInt32), .int p0, .ref (b 0)]) C (c_X2_daysOf l G (p1.toInt32) p2) F_X2_daysOf rfl bw1223 bw1224 (hE.S hS hAB) vpn hl.1 dX2_becomeMonth_37 ⟨Nat.le_of_ble_eq_true rfl, Nat.le_of_ble_eq_true rfl⟩ rfl (Nat.le_of_ble_eq_true rfl) ⟨Nat.le_of_ble_eq_true rfl, Nat.le_of_ble_eq_true rfl⟩ ?_
      refine rcSi (as := [.int ((md T) p0.toNatClampNeg), .int (fX2_daysOf (p1.toInt32) p2)]) (rest := [.int p2, .int (p1.toInt32), .int p0, .ref (b 0)]) C (c_J9_min_7cf53 l G ((md T) p0.toNatClampNeg) (fX2_daysOf (p1.toInt32) p2)) F_J9_min_7cf53 rfl bw1314 bw214 (hE.S hS hAB) vpn hl.1 dX2_becomeMonth_40 ⟨Nat.le_of_ble_eq_true rfl, Nat.le_of_ble_eq_true rfl⟩ rfl (Nat.le_of_ble_eq_true rfl) ⟨Nat.le_of_ble_eq_true rfl, Nat.le_of_ble_eq_true rfl⟩ ?_
      refine lv_aload_n hx hb dX2_becomeMonth_43 rfl (lv_at hl 0 rfl) ?_
      refine va_get (D := gD G) (cl := vwCl) (tys := gT G) (ci := 4) (v := .ref (b 4)) (C := RX2) (T := TX2) (N := 12) hx hb hw inB_X2 hown hE.K hP 0 rfl rfl 4 (by decide) (hw _ bw1167) (fun _ h9 => h9) rfl dX2_becomeMonth_44 ?_
      refine lv_iload_n hx hb dX2_becomeMonth_47 rfl (lv_at hl 1 rfl) ?_
      refine va_lald (tys := gT G) hx hb hE.K hP 4 1 rfl rfl h0 dX2_becomeMonth_48 ?_
      refine wcVi (as := [.int p0, .int (p1.toInt32), .int p2, .int (fJ9_min_7cf53 ((md T) p0.toNatClampNeg) (fX2_daysOf (p1.toInt32) p2)), .long ((mt T) p0.toNatClampNeg)]) (rest := []) (cl := RX2) C (c_X2_become l G b T p0 (p1.toInt32) p2 (fJ9_min_7cf53 ((md T) p0.toNatClampNeg) (fX2_daysOf (p1.toInt32) p2)) ((mt T) p0.toNatClampNeg) h0 hT hm) F_X2_become rfl bw1239 bw1241 bw36 (hE.S hS hAB) hP hD hS hA hAB (rv4 hE.K hP (q0 := 0) rfl) hl.1 dX2_becomeMonth_49 ⟨Nat.le_of_ble_eq_true rfl, Nat.le_of_ble_eq_true rfl⟩ rfl (Nat.le_of_ble_eq_true rfl) ⟨Nat.le_of_ble_eq_true rfl, Nat.le_of_ble_eq_true rfl⟩ (fun H locs hP hD hS => ?_)
      exact we_i (wf := wM G b) hx hb hr hk hP hD hS (Nat.le_of_ble_eq_true rfl) (Nat.le_of_ble_eq_true rfl) dX2_becomeMonth_52 (Eq.trans (if_neg c_1) (if_pos c_2))
    · refine lv_aload_n hx hb dX2_becomeMonth_16 rfl (lv_at hl 0 rfl) ?_
      refine wcVi (as := []) (rest := []) (cl := RX2) C (c_X2_refuse l G b T) F_X2_refuse rfl bw1229 bw1231 bw34 (hE.S hS hAB) hP hD hS hA hAB (rv4 hE.K hP (q0 := 0) rfl) hl.1 dX2_becomeMonth_17 ⟨Nat.le_of_ble_eq_true rfl, Nat.le_of_ble_eq_true rfl⟩ rfl (Nat.le_of_ble_eq_true rfl) ⟨Nat.le_of_ble_eq_true rfl, Nat.le_of_ble_eq_true rfl⟩ (fun H locs hP hD hS => ?_)
      exact we_i (wf := wM G b) hx hb hr hk hP hD hS (Nat.le_of_ble_eq_true rfl) (Nat.le_of_ble_eq_true rfl) dX2_becomeMonth_20 (Eq.trans (if_neg c_1) (if_neg c_2))

set_option maxRecDepth 100000 in
set_option maxHeartbeats 4000000 in
theorem c_X2_onMonths (l : Launch) (G : GT) (b : Nat → Nat) (T : SM) (p0 : Int32) (p1 : Int64) (h0 : vp_in p0 6) (hT : MO T) : WR l G yX2_onMonths cX2_onMonths 8 (some .int) 9 0 0 [.ref (b 0), .int p0, .long p1] (wM G b T) (wM G b (gX2_onMonths T p0 p1).2) (some (.int (gX2_onMonths T p0 p1).1)) := by
  refine WR.ofW (own := RX2) rfl (plainFor_of_name pnN_RX2) (Nat.le_of_ble_eq_true rfl) ?_
  intro p e s m below meth c A C hr hk hnm hE hP hD hA hAB hS ls hl
  have hx := C.1
  have hb := C.2.1
  have hown := C.2.2.2.1
  have hw := C.2.2.2.2
  have hl : lv_has ls 8 [(0, .ref (b 0)), (1, .int p0), (2, .long p1)] := hl
  refine lv_ldc2 (v := (12 : Int64)) hx hb hown (hw _ bw1368) dX2_onMonths_0 ?_
  refine lv_aload_n hx hb dX2_onMonths_3 rfl (lv_at hl 0 rfl) ?_
  refine va_get (D := gD G) (cl := vwCl) (tys := gT G) (ci := 4) (v := .ref (b 1)) (C := RX2) (T := TX2) (N := 12) hx hb hw inB_X2 hown hE.K hP 0 rfl rfl 1 (by decide) (hw _ bw1164) (fun _ h9 => h9) rfl dX2_onMonths_4 ?_
  refine lv_iload_n hx hb dX2_onMonths_7 rfl (lv_at hl 1 rfl) ?_
  refine va_iald (tys := gT G) hx hb hE.K hP 1 0 rfl rfl h0 dX2_onMonths_8 ?_
  refine lv_i2l (v := (((my T) p0.toNatClampNeg).toInt64)) hx hb dX2_onMonths_9 (by first | rfl | decide) ?_
  refine lv_lmul hx hb dX2_onMonths_10 ?_
  refine lv_aload_n hx hb dX2_onMonths_11 rfl (lv_at hl 0 rfl) ?_
  refine va_get (D := gD G) (cl := vwCl) (tys := gT G) (ci := 4) (v := .ref (b 2)) (C := RX2) (T := TX2) (N := 12) hx hb hw inB_X2 hown hE.K hP 0 rfl rfl 2 (by decide) (hw _ bw1165) (fun _ h9 => h9) rfl dX2_onMonths_12 ?_
  refine lv_iload_n hx hb dX2_onMonths_15 rfl (lv_at hl 1 rfl) ?_
  refine va_iald (tys := gT G) hx hb hE.K hP 2 0 rfl rfl h0 dX2_onMonths_16 ?_
  refine lv_i2l (v := (((mm T) p0.toNatClampNeg).toInt64)) hx hb dX2_onMonths_17 (by first | rfl | decide) ?_
  refine lv_ladd hx hb dX2_onMonths_18 ?_
  refine lv_lconst (v := (1 : Int64)) hx hb dX2_onMonths_19 ql_1 ?_
  refine lv_lsub hx hb dX2_onMonths_20 ?_
  refine lv_lload_n hx hb dX2_onMonths_21 rfl (lv_at hl 2 rfl) ?_
  refine lv_ladd hx hb dX2_onMonths_22 ?_
  refine lv_lstore (lv' := [(4, .long (((((12 : Int64) * (((my T) p0.toNatClampNeg).toInt64)) + (((mm T) p0.toNatClampNeg).toInt64)) - (1 : Int64)) + p1)), (0, .ref (b 0)), (1, .int p0), (2, .long p1)]) hx hb dX2_onMonths_23 hl (Nat.le_of_ble_eq_true rfl) rfl (fun ls hl => ?_)
  refine lv_lload hx hb dX2_onMonths_25 (lv_at hl 0 rfl) ?_
  refine lv_ldc2 (v := (12 : Int64)) hx hb hown (hw _ bw1368) dX2_onMonths_27 ?_
  refine rcSl (as := [.long (((((12 : Int64) * (((my T) p0.toNatClampNeg).toInt64)) + (((mm T) p0.toNatClampNeg).toInt64)) - (1 : Int64)) + p1), .long (12 : Int64)]) (rest := []) C (c_X2_floor l G (((((12 : Int64) * (((my T) p0.toNatClampNeg).toInt64)) + (((mm T) p0.toNatClampNeg).toInt64)) - (1 : Int64)) + p1) (12 : Int64) (by decide)) F_X2_floor rfl bw1260 bw1261 (hE.S hS hAB) vpn hl.1 dX2_onMonths_30 ⟨Nat.le_of_ble_eq_true rfl, Nat.le_of_ble_eq_true rfl⟩ rfl (Nat.le_of_ble_eq_true rfl) ⟨Nat.le_of_ble_eq_true rfl, Nat.le_of_ble_eq_true rfl⟩ ?_
  refine lv_lstore (lv' := [(6, .long (fX2_floor (((((12 : Int64) * (((my T) p0.toNatClampNeg).toInt64)) + (((mm T) p0.toNatClampNeg).toInt64)) - (1 : Int64)) + p1) (12 : Int64))), (4, .long (((((12 : Int64) * (((my T) p0.toNatClampNeg).toInt64)) + (((mm T) p0.toNatClampNeg).toInt64)) - (1 : Int64)) + p1)), (0, .ref (b 0)), (1, .int p0), (2, .long p1)]) hx hb dX2_onMonths_33 hl (Nat.le_of_ble_eq_true rfl) rfl (fun ls hl => ?_)
  refine lv_aload_n hx hb dX2_onMonths_35 rfl (lv_at hl 2 rfl) ?_
  refine lv_iload_n hx hb dX2_onMonths_36 rfl (lv_at hl 3 rfl) ?_
  refine lv_lload hx hb dX2_onMonths_37 (lv_at hl 0 rfl) ?_
  refine lv_lload hx hb dX2_onMonths_39 (lv_at hl 1 rfl) ?_
  refine lv_ldc2 (v := (12 : Int64)) hx hb hown (hw _ bw1368) dX2_onMonths_41 ?_
  refine lv_lload hx hb dX2_onMonths_44 (lv_at hl 0 rfl) ?_
  refine lv_lmul hx hb dX2_onMonths_46 ?_
  refine lv_lsub hx hb dX2_onMonths_47 ?_
  refine lv_l2i (v := (((((((12 : Int64) * (((my T) p0.toNatClampNeg).toInt64)) + (((mm T) p0.toNatClampNeg).toInt64)) - (1 : Int64)) + p1) - ((12 : Int64) * (fX2_floor (((((12 : Int64) * (((my T) p0.toNatClampNeg).toInt64)) + (((mm T) p0.toNatClampNeg).toInt64)) - (1 : Int64)) + p1) (12 : Int64)))).toInt32)) hx hb dX2_onMonths_48 (by first | rfl | decide) ?_
  refine lv_iconst (v := (1 : Int32)) hx hb dX2_onMonths_49 qi_1 ?_
  refine lv_iadd hx hb dX2_onMonths_50 ?_
  refine wcVi (as := [.int p0, .long (fX2_floor (((((12 : Int64) * (((my T) p0.toNatClampNeg).toInt64)) + (((mm T) p0.toNatClampNeg).toInt64)) - (1 : Int64)) + p1) (12 : Int64)), .int ((((((((12 : Int64) * (((my T) p0.toNatClampNeg).toInt64)) + (((mm T) p0.toNatClampNeg).toInt64)) - (1 : Int64)) + p1) - ((12 : Int64) * (fX2_floor (((((12 : Int64) * (((my T) p0.toNatClampNeg).toInt64)) + (((mm T) p0.toNatClampNeg).toInt64)) - (1 : Int64)) + p1) (12 : Int64)))).toInt32) + (1 : Int32))]) (rest := []) (cl := RX2) C (c_X2_becomeMonth l G b T p0 (fX2_floor (((((12 : Int64) * (((my T) p0.toNatClampNeg).toInt64)) + (((mm T) p0.toNatClampNeg).toInt64)) - (1 : Int64)) + p1) (12 : Int64)) ((((((((12 : Int64) * (((my T) p0.toNatClampNeg).toInt64)) + (((mm T) p0.toNatClampNeg).toInt64)) - (1 : Int64)) + p1) - ((12 : Int64) * (fX2_floor (((((12 : Int64) * (((my T) p0.toNatClampNeg).toInt64)) + (((mm T) p0.toNatClampNeg).toInt64)) - (1 : Int64)) + p1) (12 : Int64)))).toInt32) + (1 : Int32)) h0 hT (mon12 _)) F_X2_becomeMonth rfl bw1308 bw1310 bw40 (hE.S hS hAB) hP hD hS hA hAB (rv4 hE.K hP (q0 := 0) rfl) hl.1 dX2_onMonths_51 ⟨Nat.le_of_ble_eq_true rfl, Nat.le_of_ble_eq_true rfl⟩ rfl (Nat.le_of_ble_eq_true rfl) ⟨Nat.le_of_ble_eq_true rfl, Nat.le_of_ble_eq_true rfl⟩ (fun H locs hP hD hS => ?_)
  exact we_i (wf := wM G b) hx hb hr hk hP hD hS (Nat.le_of_ble_eq_true rfl) (Nat.le_of_ble_eq_true rfl) dX2_onMonths_54 rfl

set_option maxRecDepth 100000 in
set_option maxHeartbeats 4000000 in
theorem c_X2_onLine (l : Launch) (G : GT) (b : Nat → Nat) (T : SM) (p0 : Int32) (p1 : Int64) (p2 : Int64) (h0 : vp_in p0 6) (hT : MO T) (n2 : ¬ p2 = 0) (n3 : ¬ ((86400000000000 : Int64) / p2) = 0) : WR l G yX2_onLine cX2_onLine 12 (some .int) 9 1 3 [.ref (b 0), .int p0, .long p1, .long p2] (wM G b T) (wM G b (gX2_onLine T p0 p1 p2).2) (some (.int (gX2_onLine T p0 p1 p2).1)) := by
  refine WR.ofW (own := RX2) rfl (plainFor_of_name pnN_RX2) (Nat.le_of_ble_eq_true rfl) ?_
  intro p e s m below meth c A C hr hk hnm hE hP hD hA hAB hS ls hl
  have hx := C.1
  have hb := C.2.1
  have hown := C.2.2.2.1
  have hw := C.2.2.2.2
  have hl : lv_has ls 12 [(0, .ref (b 0)), (1, .int p0), (2, .long p1), (4, .long p2)] := hl
  refine lv_ldc2 (v := (86400000000000 : Int64)) hx hb hown (hw _ bw1360) dX2_onLine_0 ?_
  refine lv_lload hx hb dX2_onLine_3 (lv_at hl 3 rfl) ?_
  refine lv_ldiv hx hb dX2_onLine_5 n2 ?_
  refine lv_lstore (lv' := [(6, .long ((86400000000000 : Int64) / p2)), (0, .ref (b 0)), (1, .int p0), (2, .long p1), (4, .long p2)]) hx hb dX2_onLine_6 hl (Nat.le_of_ble_eq_true rfl) rfl (fun ls hl => ?_)
  refine lv_lload_n hx hb dX2_onLine_8 rfl (lv_at hl 3 rfl) ?_
  refine lv_lload hx hb dX2_onLine_9 (lv_at hl 0 rfl) ?_
  refine rcSl (as := [.long p1, .long ((86400000000000 : Int64) / p2)]) (rest := []) C (c_X2_floor l G p1 ((86400000000000 : Int64) / p2) n3) F_X2_floor rfl bw1260 bw1261 (hE.S hS hAB) vpn hl.1 dX2_onLine_11 ⟨Nat.le_of_ble_eq_true rfl, Nat.le_of_ble_eq_true rfl⟩ rfl (Nat.le_of_ble_eq_true rfl) ⟨Nat.le_of_ble_eq_true rfl, Nat.le_of_ble_eq_true rfl⟩ ?_
  refine lv_lstore (lv' := [(8, .long (fX2_floor p1 ((86400000000000 : Int64) / p2))), (6, .long ((86400000000000 : Int64) / p2)), (0, .ref (b 0)), (1, .int p0), (2, .long p1), (4, .long p2)]) hx hb dX2_onLine_14 hl (Nat.le_of_ble_eq_true rfl) rfl (fun ls hl => ?_)
  refine lv_aload_n hx hb dX2_onLine_16 rfl (lv_at hl 2 rfl) ?_
  refine va_get (D := gD G) (cl := vwCl) (tys := gT G) (ci := 4) (v := .ref (b 4)) (C := RX2) (T := TX2) (N := 12) hx hb hw inB_X2 hown hE.K hP 0 rfl rfl 4 (by decide) (hw _ bw1167) (fun _ h9 => h9) rfl dX2_onLine_17 ?_
  refine lv_iload_n hx hb dX2_onLine_20 rfl (lv_at hl 3 rfl) ?_
  refine va_lald (tys := gT G) hx hb hE.K hP 4 1 rfl rfl h0 dX2_onLine_21 ?_
  refine lv_lload_n hx hb dX2_onLine_22 rfl (lv_at hl 4 rfl) ?_
  refine lv_lload hx hb dX2_onLine_23 (lv_at hl 0 rfl) ?_
  refine lv_lload hx hb dX2_onLine_25 (lv_at hl 1 rfl) ?_
  refine lv_lmul hx hb dX2_onLine_27 ?_
  refine lv_lsub hx hb dX2_onLine_28 ?_
  refine lv_lload hx hb dX2_onLine_29 (lv_at hl 5 rfl) ?_
  refine lv_lmul hx hb dX2_onLine_31 ?_
  refine lv_ladd hx hb dX2_onLine_32 ?_
  refine lv_lstore (lv' := [(10, .long (((mt T) p0.toNatClampNeg) + ((p1 - ((fX2_floor p1 ((86400000000000 : Int64) / p2)) * ((86400000000000 : Int64) / p2))) * p2))), (8, .long (fX2_floor p1 ((86400000000000 : Int64) / p2))), (6, .long ((86400000000000 : Int64) / p2)), (0, .ref (b 0)), (1, .int p0), (2, .long p1), (4, .long p2)]) hx hb dX2_onLine_33 hl (Nat.le_of_ble_eq_true rfl) rfl (fun ls hl => ?_)
  refine lv_aload_n hx hb dX2_onLine_35 rfl (lv_at hl 3 rfl) ?_
  refine lv_iload_n hx hb dX2_onLine_36 rfl (lv_at hl 4 rfl) ?_
  refine lv_aload_n hx hb dX2_onLine_37 rfl (lv_at hl 3 rfl) ?_
  refine lv_iload_n hx hb dX2_onLine_38 rfl (lv_at hl 4 rfl) ?_
  refine rcVl (as := [.int p0]) (rest := [.int p0, .ref (b 0)]) (cl := RX2) C (c_X2_dayNow l G b T p0 h0 hT) F_X2_dayNow rfl bw1247 bw1249 bw38 (hE.S hS hAB) hP (rv4 hE.K hP (q0 := 0) rfl) hl.1 dX2_onLine_39 ⟨Nat.le_of_ble_eq_true rfl, Nat.le_of_ble_eq_true rfl⟩ rfl (Nat.le_of_ble_eq_true rfl) ⟨Nat.le_of_ble_eq_true rfl, Nat.le_of_ble_eq_true rfl⟩ ?_
  refine lv_lload hx hb dX2_onLine_42 (lv_at hl 1 rfl) ?_
  refine lv_ladd hx hb dX2_onLine_44 ?_
  refine lv_lload hx hb dX2_onLine_45 (lv_at hl 0 rfl) ?_
  refine lv_ldc2 (v := (86400000000000 : Int64)) hx hb hown (hw _ bw1360) dX2_onLine_47 ?_
  refine lv_ldiv hx hb dX2_onLine_50 (by decide) ?_
  refine lv_ladd hx hb dX2_onLine_51 ?_
  refine lv_lload hx hb dX2_onLine_52 (lv_at hl 0 rfl) ?_
  refine lv_ldc2 (v := (86400000000000 : Int64)) hx hb hown (hw _ bw1360) dX2_onLine_54 ?_
  refine lv_lrem hx hb dX2_onLine_57 (by decide) ?_
  refine wcVi (as := [.int p0, .long (((fX2_dayNow T p0) + (fX2_floor p1 ((86400000000000 : Int64) / p2))) + ((((mt T) p0.toNatClampNeg) + ((p1 - ((fX2_floor p1 ((86400000000000 : Int64) / p2)) * ((86400000000000 : Int64) / p2))) * p2)) / (86400000000000 : Int64))), .long ((((mt T) p0.toNatClampNeg) + ((p1 - ((fX2_floor p1 ((86400000000000 : Int64) / p2)) * ((86400000000000 : Int64) / p2))) * p2)) - (((mt T) p0.toNatClampNeg) + ((p1 - ((fX2_floor p1 ((86400000000000 : Int64) / p2)) * ((86400000000000 : Int64) / p2))) * p2)) / (86400000000000 : Int64) * (86400000000000 : Int64))]) (rest := []) (cl := RX2) C (c_X2_becomeDay l G b T p0 (((fX2_dayNow T p0) + (fX2_floor p1 ((86400000000000 : Int64) / p2))) + ((((mt T) p0.toNatClampNeg) + ((p1 - ((fX2_floor p1 ((86400000000000 : Int64) / p2)) * ((86400000000000 : Int64) / p2))) * p2)) / (86400000000000 : Int64))) ((((mt T) p0.toNatClampNeg) + ((p1 - ((fX2_floor p1 ((86400000000000 : Int64) / p2)) * ((86400000000000 : Int64) / p2))) * p2)) - (((mt T) p0.toNatClampNeg) + ((p1 - ((fX2_floor p1 ((86400000000000 : Int64) / p2)) * ((86400000000000 : Int64) / p2))) * p2)) / (86400000000000 : Int64) * (86400000000000 : Int64)) h0 hT) F_X2_becomeDay rfl bw1281 bw1283 bw39 (hE.S hS hAB) hP hD hS hA hAB (rv4 hE.K hP (q0 := 0) rfl) hl.1 dX2_onLine_58 ⟨Nat.le_of_ble_eq_true rfl, Nat.le_of_ble_eq_true rfl⟩ rfl (Nat.le_of_ble_eq_true rfl) ⟨Nat.le_of_ble_eq_true rfl, Nat.le_of_ble_eq_true rfl⟩ (fun H locs hP hD hS => ?_)
  exact we_i (wf := wM G b) hx hb hr hk hP hD hS (Nat.le_of_ble_eq_true rfl) (Nat.le_of_ble_eq_true rfl) dX2_onLine_61 rfl

set_option maxRecDepth 100000 in
set_option maxHeartbeats 4000000 in
theorem c_X2_withPart (l : Launch) (G : GT) (b : Nat → Nat) (T : SM) (p0 : Int32) (p1 : Int64) (p2 : Int64) (p3 : Int64) (h0 : vp_in p0 6) (hT : MO T) (n1 : ¬ p1 = 0) (n3 : ¬ (p1 * p2) = 0) : WR l G yX2_withPart cX2_withPart 10 (some .int) 8 0 0 [.ref (b 0), .int p0, .long p1, .long p2, .long p3] (wM G b T) (wM G b (gX2_withPart T p0 p1 p2 p3).2) (some (.int (gX2_withPart T p0 p1 p2 p3).1)) := by
  refine WR.ofW (own := RX2) rfl (plainFor_of_name pnN_RX2) (Nat.le_of_ble_eq_true rfl) ?_
  intro p e s m below meth c A C hr hk hnm hE hP hD hA hAB hS ls hl
  have hx := C.1
  have hb := C.2.1
  have hown := C.2.2.2.1
  have hw := C.2.2.2.2
  have hl : lv_has ls 10 [(0, .ref (b 0)), (1, .int p0), (2, .long p1), (4, .long p2), (6, .long p3)] := hl
  refine lv_aload_n hx hb dX2_withPart_0 rfl (lv_at hl 0 rfl) ?_
  refine va_get (D := gD G) (cl := vwCl) (tys := gT G) (ci := 4) (v := .ref (b 4)) (C := RX2) (T := TX2) (N := 12) hx hb hw inB_X2 hown hE.K hP 0 rfl rfl 4 (by decide) (hw _ bw1167) (fun _ h9 => h9) rfl dX2_withPart_1 ?_
  refine lv_iload_n hx hb dX2_withPart_4 rfl (lv_at hl 1 rfl) ?_
  refine va_lald (tys := gT G) hx hb hE.K hP 4 1 rfl rfl h0 dX2_withPart_5 ?_
  refine lv_lload_n hx hb dX2_withPart_6 rfl (lv_at hl 2 rfl) ?_
  refine lv_lload hx hb dX2_withPart_7 (lv_at hl 3 rfl) ?_
  refine lv_lmul hx hb dX2_withPart_9 ?_
  refine lv_ldiv hx hb dX2_withPart_10 n3 ?_
  refine lv_lload_n hx hb dX2_withPart_11 rfl (lv_at hl 2 rfl) ?_
  refine lv_lload hx hb dX2_withPart_12 (lv_at hl 3 rfl) ?_
  refine lv_lmul hx hb dX2_withPart_14 ?_
  refine lv_lmul hx hb dX2_withPart_15 ?_
  refine lv_lstore (lv' := [(8, .long ((((mt T) p0.toNatClampNeg) / (p1 * p2)) * (p1 * p2))), (0, .ref (b 0)), (1, .int p0), (2, .long p1), (4, .long p2), (6, .long p3)]) hx hb dX2_withPart_16 hl (Nat.le_of_ble_eq_true rfl) rfl (fun ls hl => ?_)
  refine lv_aload_n hx hb dX2_withPart_18 rfl (lv_at hl 1 rfl) ?_
  refine lv_iload_n hx hb dX2_withPart_19 rfl (lv_at hl 2 rfl) ?_
  refine lv_aload_n hx hb dX2_withPart_20 rfl (lv_at hl 1 rfl) ?_
  refine va_get (D := gD G) (cl := vwCl) (tys := gT G) (ci := 4) (v := .ref (b 1)) (C := RX2) (T := TX2) (N := 12) hx hb hw inB_X2 hown hE.K hP 0 rfl rfl 1 (by decide) (hw _ bw1164) (fun _ h9 => h9) rfl dX2_withPart_21 ?_
  refine lv_iload_n hx hb dX2_withPart_24 rfl (lv_at hl 2 rfl) ?_
  refine va_iald (tys := gT G) hx hb hE.K hP 1 0 rfl rfl h0 dX2_withPart_25 ?_
  refine lv_aload_n hx hb dX2_withPart_26 rfl (lv_at hl 1 rfl) ?_
  refine va_get (D := gD G) (cl := vwCl) (tys := gT G) (ci := 4) (v := .ref (b 2)) (C := RX2) (T := TX2) (N := 12) hx hb hw inB_X2 hown hE.K hP 0 rfl rfl 2 (by decide) (hw _ bw1165) (fun _ h9 => h9) rfl dX2_withPart_27 ?_
  refine lv_iload_n hx hb dX2_withPart_30 rfl (lv_at hl 2 rfl) ?_
  refine va_iald (tys := gT G) hx hb hE.K hP 2 0 rfl rfl h0 dX2_withPart_31 ?_
  refine lv_aload_n hx hb dX2_withPart_32 rfl (lv_at hl 1 rfl) ?_
  refine va_get (D := gD G) (cl := vwCl) (tys := gT G) (ci := 4) (v := .ref (b 3)) (C := RX2) (T := TX2) (N := 12) hx hb hw inB_X2 hown hE.K hP 0 rfl rfl 3 (by decide) (hw _ bw1166) (fun _ h9 => h9) rfl dX2_withPart_33 ?_
  refine lv_iload_n hx hb dX2_withPart_36 rfl (lv_at hl 2 rfl) ?_
  refine va_iald (tys := gT G) hx hb hE.K hP 3 0 rfl rfl h0 dX2_withPart_37 ?_
  refine lv_lload hx hb dX2_withPart_38 (lv_at hl 0 rfl) ?_
  refine lv_lload hx hb dX2_withPart_40 (lv_at hl 5 rfl) ?_
  refine lv_lload_n hx hb dX2_withPart_42 rfl (lv_at hl 3 rfl) ?_
  refine lv_lmul hx hb dX2_withPart_43 ?_
  refine lv_ladd hx hb dX2_withPart_44 ?_
  refine lv_aload_n hx hb dX2_withPart_45 rfl (lv_at hl 1 rfl) ?_
  refine va_get (D := gD G) (cl := vwCl) (tys := gT G) (ci := 4) (v := .ref (b 4)) (C := RX2) (T := TX2) (N := 12) hx hb hw inB_X2 hown hE.K hP 0 rfl rfl 4 (by decide) (hw _ bw1167) (fun _ h9 => h9) rfl dX2_withPart_46 ?_
  refine lv_iload_n hx hb dX2_withPart_49 rfl (lv_at hl 2 rfl) ?_
  refine va_lald (tys := gT G) hx hb hE.K hP 4 1 rfl rfl h0 dX2_withPart_50 ?_
  refine lv_lload_n hx hb dX2_withPart_51 rfl (lv_at hl 3 rfl) ?_
  refine lv_lrem hx hb dX2_withPart_52 n1 ?_
  refine lv_ladd hx hb dX2_withPart_53 ?_
  refine wcVi (as := [.int p0, .int ((my T) p0.toNatClampNeg), .int ((mm T) p0.toNatClampNeg), .int ((md T) p0.toNatClampNeg), .long ((((((mt T) p0.toNatClampNeg) / (p1 * p2)) * (p1 * p2)) + (p3 * p1)) + (((mt T) p0.toNatClampNeg) - ((mt T) p0.toNatClampNeg) / p1 * p1))]) (rest := []) (cl := RX2) C (c_X2_become l G b T p0 ((my T) p0.toNatClampNeg) ((mm T) p0.toNatClampNeg) ((md T) p0.toNatClampNeg) ((((((mt T) p0.toNatClampNeg) / (p1 * p2)) * (p1 * p2)) + (p3 * p1)) + (((mt T) p0.toNatClampNeg) - ((mt T) p0.toNatClampNeg) / p1 * p1)) h0 hT (MO.at hT h0)) F_X2_become rfl bw1239 bw1241 bw36 (hE.S hS hAB) hP hD hS hA hAB (rv4 hE.K hP (q0 := 0) rfl) hl.1 dX2_withPart_54 ⟨Nat.le_of_ble_eq_true rfl, Nat.le_of_ble_eq_true rfl⟩ rfl (Nat.le_of_ble_eq_true rfl) ⟨Nat.le_of_ble_eq_true rfl, Nat.le_of_ble_eq_true rfl⟩ (fun H locs hP hD hS => ?_)
  exact we_i (wf := wM G b) hx hb hr hk hP hD hS (Nat.le_of_ble_eq_true rfl) (Nat.le_of_ble_eq_true rfl) dX2_withPart_57 rfl

set_option maxRecDepth 100000 in
set_option maxHeartbeats 4000000 in
theorem c_X2_hand (l : Launch) (G : GT) (b : Nat → Nat) (T : SM) (p0 : Int32) (p1 : Int32) (p2 : Int32) (p3 : Int32) (hT : MO T) : WR l G yX2_hand cX2_hand 6 (some .int) 12 0 0 [.ref (b 0), .int p0, .int p1, .int p2, .int p3] (wM G b T) (wM G b (gX2_hand T p0 p1 p2 p3).2) (some (.int (gX2_hand T p0 p1 p2 p3).1)) := by
  refine WR.ofW (own := RX2) rfl (plainFor_of_name pnN_RX2) (Nat.le_of_ble_eq_true rfl) ?_
  intro p e s m below meth c A C hr hk hnm hE hP hD hA hAB hS ls hl
  have hx := C.1
  have hb := C.2.1
  have hown := C.2.2.2.1
  have hw := C.2.2.2.2
  have hl : lv_has ls 6 [(0, .ref (b 0)), (1, .int p0), (2, .int p1), (3, .int p2), (4, .int p3)] := hl
  refine lv_aload_n hx hb dX2_hand_0 rfl (lv_at hl 0 rfl) ?_
  refine lv_iconst (v := (0 : Int32)) hx hb dX2_hand_1 qi_0 ?_
  refine lv_bipush (v := (23 : Int32)) hx hb dX2_hand_2 qb_23 ?_
  refine lv_iload_n hx hb dX2_hand_4 rfl (lv_at hl 1 rfl) ?_
  refine rcSi (as := [.int (0 : Int32), .int (23 : Int32), .int p0]) (rest := [.ref (b 0)]) C (c_X2_isFrom l G (0 : Int32) (23 : Int32) p0) F_X2_isFrom rfl bw1208 bw1209 (hE.S hS hAB) vpn hl.1 dX2_hand_5 ⟨Nat.le_of_ble_eq_true rfl, Nat.le_of_ble_eq_true rfl⟩ rfl (Nat.le_of_ble_eq_true rfl) ⟨Nat.le_of_ble_eq_true rfl, Nat.le_of_ble_eq_true rfl⟩ ?_
  refine lv_if_eq (tgt := 46) hx hb dX2_hand_8 (by decide) (fun c_1 => ?_) (fun c_1 => ?_)
  · refine lv_iconst (v := (1 : Int32)) hx hb dX2_hand_46 qi_1 ?_
    refine va_put (D := gD G) (cl := vwCl) (tys := gT G) (ci := 4) (v := .int (1 : Int32)) (ty := .int) (C := RX2) (T := TX2) (N := 12) hx hb hw inB_X2 tyX2 tyX2_ok nmX2 hown hE.K hP hD hS 0 rfl rfl 0 (by decide) (hw _ bw1163) (fun _ h9 => h9) rfl (by decide +kernel) rfl rfl (Nat.le_of_ble_eq_true rfl) dX2_hand_47 (fun H locs hP hD hS => ?_)
    have hP : va_P (gD G) vwCl (wM G b ((1 : Int32), (my T), (mm T), (md T), (mt T), (T.2.2.2.2.2))) H := hP
    have hD : va_D A (wM G b ((1 : Int32), (my T), (mm T), (md T), (mt T), (T.2.2.2.2.2))) := hD
    refine lv_aload_n hx hb dX2_hand_50 rfl (lv_at hl 0 rfl) ?_
    refine va_get (D := gD G) (cl := vwCl) (tys := gT G) (ci := 4) (v := .int (1 : Int32)) (C := RX2) (T := TX2) (N := 12) hx hb hw inB_X2 hown hE.K hP 0 rfl rfl 0 (by decide) (hw _ bw1163) (fun _ h9 => h9) rfl dX2_hand_51 ?_
    refine lv_if_le (tgt := 59) hx hb dX2_hand_54 (by decide) (fun c_x => absurd c_x (by decide)) (fun _ => ?_)
    refine lv_iconst (v := (0 : Int32)) hx hb dX2_hand_57 qi_0 ?_
    exact we_i (wf := wM G b) hx hb hr hk hP hD hS (Nat.le_of_ble_eq_true rfl) (Nat.le_of_ble_eq_true rfl) dX2_hand_58 (if_pos c_1)
  · refine lv_iconst (v := (0 : Int32)) hx hb dX2_hand_11 qi_0 ?_
    refine lv_bipush (v := (59 : Int32)) hx hb dX2_hand_12 qb_59 ?_
    refine lv_iload_n hx hb dX2_hand_14 rfl (lv_at hl 2 rfl) ?_
    refine rcSi (as := [.int (0 : Int32), .int (59 : Int32), .int p1]) (rest := [.ref (b 0)]) C (c_X2_isFrom l G (0 : Int32) (59 : Int32) p1) F_X2_isFrom rfl bw1208 bw1209 (hE.S hS hAB) vpn hl.1 dX2_hand_15 ⟨Nat.le_of_ble_eq_true rfl, Nat.le_of_ble_eq_true rfl⟩ rfl (Nat.le_of_ble_eq_true rfl) ⟨Nat.le_of_ble_eq_true rfl, Nat.le_of_ble_eq_true rfl⟩ ?_
    refine lv_if_eq (tgt := 46) hx hb dX2_hand_18 (by decide) (fun c_2 => ?_) (fun c_2 => ?_)
    · refine lv_iconst (v := (1 : Int32)) hx hb dX2_hand_46 qi_1 ?_
      refine va_put (D := gD G) (cl := vwCl) (tys := gT G) (ci := 4) (v := .int (1 : Int32)) (ty := .int) (C := RX2) (T := TX2) (N := 12) hx hb hw inB_X2 tyX2 tyX2_ok nmX2 hown hE.K hP hD hS 0 rfl rfl 0 (by decide) (hw _ bw1163) (fun _ h9 => h9) rfl (by decide +kernel) rfl rfl (Nat.le_of_ble_eq_true rfl) dX2_hand_47 (fun H locs hP hD hS => ?_)
      have hP : va_P (gD G) vwCl (wM G b ((1 : Int32), (my T), (mm T), (md T), (mt T), (T.2.2.2.2.2))) H := hP
      have hD : va_D A (wM G b ((1 : Int32), (my T), (mm T), (md T), (mt T), (T.2.2.2.2.2))) := hD
      refine lv_aload_n hx hb dX2_hand_50 rfl (lv_at hl 0 rfl) ?_
      refine va_get (D := gD G) (cl := vwCl) (tys := gT G) (ci := 4) (v := .int (1 : Int32)) (C := RX2) (T := TX2) (N := 12) hx hb hw inB_X2 hown hE.K hP 0 rfl rfl 0 (by decide) (hw _ bw1163) (fun _ h9 => h9) rfl dX2_hand_51 ?_
      refine lv_if_le (tgt := 59) hx hb dX2_hand_54 (by decide) (fun c_x => absurd c_x (by decide)) (fun _ => ?_)
      refine lv_iconst (v := (0 : Int32)) hx hb dX2_hand_57 qi_0 ?_
      exact we_i (wf := wM G b) hx hb hr hk hP hD hS (Nat.le_of_ble_eq_true rfl) (Nat.le_of_ble_eq_true rfl) dX2_hand_58 (Eq.trans (if_neg c_1) (if_pos c_2))
    · refine lv_iconst (v := (0 : Int32)) hx hb dX2_hand_21 qi_0 ?_
      refine lv_bipush (v := (59 : Int32)) hx hb dX2_hand_22 qb_59 ?_
      refine lv_iload_n hx hb dX2_hand_24 rfl (lv_at hl 3 rfl) ?_
      refine rcSi (as := [.int (0 : Int32), .int (59 : Int32), .int p2]) (rest := [.ref (b 0)]) C (c_X2_isFrom l G (0 : Int32) (59 : Int32) p2) F_X2_isFrom rfl bw1208 bw1209 (hE.S hS hAB) vpn hl.1 dX2_hand_25 ⟨Nat.le_of_ble_eq_true rfl, Nat.le_of_ble_eq_true rfl⟩ rfl (Nat.le_of_ble_eq_true rfl) ⟨Nat.le_of_ble_eq_true rfl, Nat.le_of_ble_eq_true rfl⟩ ?_
      refine lv_if_eq (tgt := 46) hx hb dX2_hand_28 (by decide) (fun c_3 => ?_) (fun c_3 => ?_)
      · refine lv_iconst (v := (1 : Int32)) hx hb dX2_hand_46 qi_1 ?_
        refine va_put (D := gD G) (cl := vwCl) (tys := gT G) (ci := 4) (v := .int (1 : Int32)) (ty := .int) (C := RX2) (T := TX2) (N := 12) hx hb hw inB_X2 tyX2 tyX2_ok nmX2 hown hE.K hP hD hS 0 rfl rfl 0 (by decide) (hw _ bw1163) (fun _ h9 => h9) rfl (by decide +kernel) rfl rfl (Nat.le_of_ble_eq_true rfl) dX2_hand_47 (fun H locs hP hD hS => ?_)
        have hP : va_P (gD G) vwCl (wM G b ((1 : Int32), (my T), (mm T), (md T), (mt T), (T.2.2.2.2.2))) H := hP
        have hD : va_D A (wM G b ((1 : Int32), (my T), (mm T), (md T), (mt T), (T.2.2.2.2.2))) := hD
        refine lv_aload_n hx hb dX2_hand_50 rfl (lv_at hl 0 rfl) ?_
        refine va_get (D := gD G) (cl := vwCl) (tys := gT G) (ci := 4) (v := .int (1 : Int32)) (C := RX2) (T := TX2) (N := 12) hx hb hw inB_X2 hown hE.K hP 0 rfl rfl 0 (by decide) (hw _ bw1163) (fun _ h9 => h9) rfl dX2_hand_51 ?_
        refine lv_if_le (tgt := 59) hx hb dX2_hand_54 (by decide) (fun c_x => absurd c_x (by decide)) (fun _ => ?_)
        refine lv_iconst (v := (0 : Int32)) hx hb dX2_hand_57 qi_0 ?_
        exact we_i (wf := wM G b) hx hb hr hk hP hD hS (Nat.le_of_ble_eq_true rfl) (Nat.le_of_ble_eq_true rfl) dX2_hand_58 (Eq.trans (if_neg c_1) (Eq.trans (if_neg c_2) (if_pos c_3)))
      · refine lv_iconst (v := (0 : Int32)) hx hb dX2_hand_31 qi_0 ?_
        refine lv_ldc (v := (999999999 : Int32)) hx hb hown (hw _ bw1211) dX2_hand_32 ?_
        refine lv_iload hx hb dX2_hand_34 (lv_at hl 4 rfl) ?_
        refine rcSi (as := [.int (0 : Int32), .int (999999999 : Int32), .int p3]) (rest := [.ref (b 0)]) C (c_X2_isFrom l G (0 : Int32) (999999999 : Int32) p3) F_X2_isFrom rfl bw1208 bw1209 (hE.S hS hAB) vpn hl.1 dX2_hand_36 ⟨Nat.le_of_ble_eq_true rfl, Nat.le_of_ble_eq_true rfl⟩ rfl (Nat.le_of_ble_eq_true rfl) ⟨Nat.le_of_ble_eq_true rfl, Nat.le_of_ble_eq_true rfl⟩ ?_
        refine k_dia (b := (fX2_isFrom (0 : Int32) (999999999 : Int32) p3) = 0) (x := (1 : Int32)) (y := (0 : Int32)) (Wg := fun z9 => W _ _ _ _ _ _ _ _ _ _ _ _ _ _ _ (F0 m 47 ls (.int z9 :: _))) ?_ (fun t9 f9 => lv_if_eq (tgt := 46) hx hb dX2_hand_39 (by decide) (fun c_x => lv_iconst (v := (1 : Int32)) hx hb dX2_hand_46 qi_1 (t9 c_x)) (fun c_x => lv_iconst (v := (0 : Int32)) hx hb dX2_hand_42 qi_0 (lv_goto (tgt := 47) hx hb dX2_hand_43 (by decide) (f9 c_x))))
        refine va_put (D := gD G) (cl := vwCl) (tys := gT G) (ci := 4) (v := .int (if (fX2_isFrom (0 : Int32) (999999999 : Int32) p3) = 0 then (1 : Int32) else (0 : Int32))) (ty := .int) (C := RX2) (T := TX2) (N := 12) hx hb hw inB_X2 tyX2 tyX2_ok nmX2 hown hE.K hP hD hS 0 rfl rfl 0 (by decide) (hw _ bw1163) (fun _ h9 => h9) rfl (by decide +kernel) rfl rfl (Nat.le_of_ble_eq_true rfl) dX2_hand_47 (fun H locs hP hD hS => ?_)
        have hP : va_P (gD G) vwCl (wM G b ((if (fX2_isFrom (0 : Int32) (999999999 : Int32) p3) = 0 then (1 : Int32) else (0 : Int32)), (my T), (mm T), (md T), (mt T), (T.2.2.2.2.2))) H := hP
        have hD : va_D A (wM G b ((if (fX2_isFrom (0 : Int32) (999999999 : Int32) p3) = 0 then (1 : Int32) else (0 : Int32)), (my T), (mm T), (md T), (mt T), (T.2.2.2.2.2))) := hD
        refine lv_aload_n hx hb dX2_hand_50 rfl (lv_at hl 0 rfl) ?_
        refine va_get (D := gD G) (cl := vwCl) (tys := gT G) (ci := 4) (v := .int (if (fX2_isFrom (0 : Int32) (999999999 : Int32) p3) = 0 then (1 : Int32) else (0 : Int32))) (C := RX2) (T := TX2) (N := 12) hx hb hw inB_X2 hown hE.K hP 0 rfl rfl 0 (by decide) (hw _ bw1163) (fun _ h9 => h9) rfl dX2_hand_51 ?_
        refine lv_if_le (tgt := 59) hx hb dX2_hand_54 (by decide) (fun c_4 => ?_) (fun c_4 => ?_)
        · refine lv_aload_n hx hb dX2_hand_59 rfl (lv_at hl 0 rfl) ?_
          refine va_get (D := gD G) (cl := vwCl) (tys := gT G) (ci := 4) (v := .int (mi T 0)) (C := RX2) (T := TX2) (N := 12) hx hb hw inB_X2 hown hE.K hP 0 rfl rfl 5 (by decide) (hw _ bw1168) (fun _ h9 => h9) rfl dX2_hand_60 ?_
          refine lv_istore (lv' := [(5, .int (mi T 0)), (0, .ref (b 0)), (1, .int p0), (2, .int p1), (3, .int p2), (4, .int p3)]) hx hb dX2_hand_63 hl (Nat.le_of_ble_eq_true rfl) rfl (fun ls hl => ?_)
          refine lv_aload_n hx hb dX2_hand_65 rfl (lv_at hl 1 rfl) ?_
          refine lv_iload_n hx hb dX2_hand_66 rfl (lv_at hl 2 rfl) ?_
          refine va_put (D := gD G) (cl := vwCl) (tys := gT G) (ci := 4) (v := .int p0) (ty := .int) (C := RX2) (T := TX2) (N := 12) hx hb hw inB_X2 tyX2 tyX2_ok nmX2 hown hE.K hP hD hS 0 rfl rfl 5 (by decide) (hw _ bw1168) (fun _ h9 => h9) rfl (by decide +kernel) rfl rfl (Nat.le_of_ble_eq_true rfl) dX2_hand_67 (fun H locs hP hD hS => ?_)
          have hP : va_P (gD G) vwCl (wM G b ((if (fX2_isFrom (0 : Int32) (999999999 : Int32) p3) = 0 then (1 : Int32) else (0 : Int32)), (my T), (mm T), (md T), (mt T), (upd (T.2.2.2.2.2) 0 p0))) H := hP
          have hD : va_D A (wM G b ((if (fX2_isFrom (0 : Int32) (999999999 : Int32) p3) = 0 then (1 : Int32) else (0 : Int32)), (my T), (mm T), (md T), (mt T), (upd (T.2.2.2.2.2) 0 p0))) := hD
          refine lv_aload_n hx hb dX2_hand_70 rfl (lv_at hl 1 rfl) ?_
          refine lv_iload_n hx hb dX2_hand_71 rfl (lv_at hl 3 rfl) ?_
          refine va_put (D := gD G) (cl := vwCl) (tys := gT G) (ci := 4) (v := .int p1) (ty := .int) (C := RX2) (T := TX2) (N := 12) hx hb hw inB_X2 tyX2 tyX2_ok nmX2 hown hE.K hP hD hS 0 rfl rfl 6 (by decide) (hw _ bw1169) (fun _ h9 => h9) rfl (by decide +kernel) rfl rfl (Nat.le_of_ble_eq_true rfl) dX2_hand_72 (fun H locs hP hD hS => ?_)
          have hP : va_P (gD G) vwCl (wM G b ((if (fX2_isFrom (0 : Int32) (999999999 : Int32) p3) = 0 then (1 : Int32) else (0 : Int32)), (my T), (mm T), (md T), (mt T), (upd (upd (T.2.2.2.2.2) 0 p0) 1 p1))) H := hP
          have hD : va_D A (wM G b ((if (fX2_isFrom (0 : Int32) (999999999 : Int32) p3) = 0 then (1 : Int32) else (0 : Int32)), (my T), (mm T), (md T), (mt T), (upd (upd (T.2.2.2.2.2) 0 p0) 1 p1))) := hD
          refine lv_aload_n hx hb dX2_hand_75 rfl (lv_at hl 1 rfl) ?_
          refine lv_iload_n hx hb dX2_hand_76 rfl (lv_at hl 4 rfl) ?_
          refine va_put (D := gD G) (cl := vwCl) (tys := gT G) (ci := 4) (v := .int p2) (ty := .int) (C := RX2) (T := TX2) (N := 12) hx hb hw inB_X2 tyX2 tyX2_ok nmX2 hown hE.K hP hD hS 0 rfl rfl 7 (by decide) (hw _ bw1170) (fun _ h9 => h9) rfl (by decide +kernel) rfl rfl (Nat.le_of_ble_eq_true rfl) dX2_hand_77 (fun H locs hP hD hS => ?_)
          have hP : va_P (gD G) vwCl (wM G b ((if (fX2_isFrom (0 : Int32) (999999999 : Int32) p3) = 0 then (1 : Int32) else (0 : Int32)), (my T), (mm T), (md T), (mt T), (upd (upd (upd (T.2.2.2.2.2) 0 p0) 1 p1) 2 p2))) H := hP
          have hD : va_D A (wM G b ((if (fX2_isFrom (0 : Int32) (999999999 : Int32) p3) = 0 then (1 : Int32) else (0 : Int32)), (my T), (mm T), (md T), (mt T), (upd (upd (upd (T.2.2.2.2.2) 0 p0) 1 p1) 2 p2))) := hD
          refine lv_aload_n hx hb dX2_hand_80 rfl (lv_at hl 1 rfl) ?_
          refine lv_iload hx hb dX2_hand_81 (lv_at hl 5 rfl) ?_
          refine va_put (D := gD G) (cl := vwCl) (tys := gT G) (ci := 4) (v := .int p3) (ty := .int) (C := RX2) (T := TX2) (N := 12) hx hb hw inB_X2 tyX2 tyX2_ok nmX2 hown hE.K hP hD hS 0 rfl rfl 8 (by decide) (hw _ bw1171) (fun _ h9 => h9) rfl (by decide +kernel) rfl rfl (Nat.le_of_ble_eq_true rfl) dX2_hand_83 (fun H locs hP hD hS => ?_)
          have hP : va_P (gD G) vwCl (wM G b ((if (fX2_isFrom (0 : Int32) (999999999 : Int32) p3) = 0 then (1 : Int32) else (0 : Int32)), (my T), (mm T), (md T), (mt T), (upd (upd (upd (upd (T.2.2.2.2.2) 0 p0) 1 p1) 2 p2) 3 p3))) H := hP
          have hD : va_D A (wM G b ((if (fX2_isFrom (0 : Int32) (999999999 : Int32) p3) = 0 then (1 : Int32) else (0 : Int32)), (my T), (mm T), (md T), (mt T), (upd (upd (upd (upd (T.2.2.2.2.2) 0 p0) 1 p1) 2 p2) 3 p3))) := hD
          refine lv_iload hx hb dX2_hand_86 (lv_at hl 0 rfl) ?_
          exact we_i (wf := wM G b) hx hb hr hk hP hD hS (Nat.le_of_ble_eq_true rfl) (Nat.le_of_ble_eq_true rfl) dX2_hand_88 (Eq.trans (if_neg c_1) (Eq.trans (if_neg c_2) (Eq.trans (if_neg c_3) (if_pos c_4))))
        · refine lv_iconst (v := (0 : Int32)) hx hb dX2_hand_57 qi_0 ?_
          exact we_i (wf := wM G b) hx hb hr hk hP hD hS (Nat.le_of_ble_eq_true rfl) (Nat.le_of_ble_eq_true rfl) dX2_hand_58 (Eq.trans (if_neg c_1) (Eq.trans (if_neg c_2) (Eq.trans (if_neg c_3) (if_neg c_4))))

set_option maxRecDepth 100000 in
set_option maxHeartbeats 4000000 in
theorem c_X2_of (l : Launch) (G : GT) (b : Nat → Nat) (T : SM) (p0 : Int32) (p1 : Int32) (p2 : Int32) (p3 : Int32) (p4 : Int32) (hT : MO T) : WR l G yX2_of cX2_of 6 (some .int) 12 0 0 [.ref (b 0), .int p0, .int p1, .int p2, .int p3, .int p4] (wM G b T) (wM G b (gX2_of T p0 p1 p2 p3 p4).2) (some (.int (gX2_of T p0 p1 p2 p3 p4).1)) := by
  refine WR.ofW (own := RX2) rfl (plainFor_of_name pnN_RX2) (Nat.le_of_ble_eq_true rfl) ?_
  intro p e s m below meth c A C hr hk hnm hE hP hD hA hAB hS ls hl
  have hx := C.1
  have hb := C.2.1
  have hown := C.2.2.2.1
  have hw := C.2.2.2.2
  have hl : lv_has ls 6 [(0, .ref (b 0)), (1, .int p0), (2, .int p1), (3, .int p2), (4, .int p3), (5, .int p4)] := hl
  refine lv_aload_n hx hb dX2_of_0 rfl (lv_at hl 0 rfl) ?_
  refine lv_iload_n hx hb dX2_of_1 rfl (lv_at hl 1 rfl) ?_
  refine rcSi (as := [.int p0]) (rest := [.ref (b 0)]) C (c_X2_isNone l G p0) F_X2_isNone rfl bw1216 bw1217 (hE.S hS hAB) vpn hl.1 dX2_of_2 ⟨Nat.le_of_ble_eq_true rfl, Nat.le_of_ble_eq_true rfl⟩ rfl (Nat.le_of_ble_eq_true rfl) ⟨Nat.le_of_ble_eq_true rfl, Nat.le_of_ble_eq_true rfl⟩ ?_
  refine lv_sipush (v := (-9999 : Int32)) hx hb dX2_of_5 qs_m9999 ?_
  refine lv_sipush (v := (9999 : Int32)) hx hb dX2_of_8 qs_9999 ?_
  refine lv_iload_n hx hb dX2_of_11 rfl (lv_at hl 2 rfl) ?_
  refine rcSi (as := [.int (-9999 : Int32), .int (9999 : Int32), .int p1]) (rest := [.int (fX2_isNone p0), .ref (b 0)]) C (c_X2_isFrom l G (-9999 : Int32) (9999 : Int32) p1) F_X2_isFrom rfl bw1208 bw1209 (hE.S hS hAB) vpn hl.1 dX2_of_12 ⟨Nat.le_of_ble_eq_true rfl, Nat.le_of_ble_eq_true rfl⟩ rfl (Nat.le_of_ble_eq_true rfl) ⟨Nat.le_of_ble_eq_true rfl, Nat.le_of_ble_eq_true rfl⟩ ?_
  refine lv_if_eq (tgt := 50) hx hb dX2_of_15 (by decide) (fun c_1 => ?_) (fun c_1 => ?_)
  · refine lv_iconst (v := (1 : Int32)) hx hb dX2_of_50 qi_1 ?_
    refine lv_goto (tgt := 55) hx hb dX2_of_51 (by decide) ?_
    refine wcVi (as := [.int (fX2_isNone p0), .int (1 : Int32)]) (rest := []) (cl := RX2) C (c_X2_refuses l G b T (fX2_isNone p0) (1 : Int32)) F_X2_refuses rfl bw1219 bw1221 bw33 (hE.S hS hAB) hP hD hS hA hAB (rv4 hE.K hP (q0 := 0) rfl) hl.1 dX2_of_55 ⟨Nat.le_of_ble_eq_true rfl, Nat.le_of_ble_eq_true rfl⟩ rfl (Nat.le_of_ble_eq_true rfl) ⟨Nat.le_of_ble_eq_true rfl, Nat.le_of_ble_eq_true rfl⟩ (fun H locs hP hD hS => ?_)
    have hP : va_P (gD G) vwCl (wM G b ((fth (fX2_isNone p0) (1 : Int32)), (my T), (mm T), (md T), (mt T), (T.2.2.2.2.2))) H := hP
    have hD : va_D A (wM G b ((fth (fX2_isNone p0) (1 : Int32)), (my T), (mm T), (md T), (mt T), (T.2.2.2.2.2))) := hD
    refine lv_if_eq (tgt := 63) hx hb dX2_of_58 (by decide) (fun c_x => absurd c_x (frf_1 (fX2_isNone p0))) (fun _ => ?_)
    refine lv_iconst (v := (0 : Int32)) hx hb dX2_of_61 qi_0 ?_
    exact we_i (wf := wM G b) hx hb hr hk hP hD hS (Nat.le_of_ble_eq_true rfl) (Nat.le_of_ble_eq_true rfl) dX2_of_62 (if_pos c_1)
  · refine lv_iconst (v := (1 : Int32)) hx hb dX2_of_18 qi_1 ?_
    refine lv_bipush (v := (12 : Int32)) hx hb dX2_of_19 qb_12 ?_
    refine lv_iload_n hx hb dX2_of_21 rfl (lv_at hl 3 rfl) ?_
    refine rcSi (as := [.int (1 : Int32), .int (12 : Int32), .int p2]) (rest := [.int (fX2_isNone p0), .ref (b 0)]) C (c_X2_isFrom l G (1 : Int32) (12 : Int32) p2) F_X2_isFrom rfl bw1208 bw1209 (hE.S hS hAB) vpn hl.1 dX2_of_22 ⟨Nat.le_of_ble_eq_true rfl, Nat.le_of_ble_eq_true rfl⟩ rfl (Nat.le_of_ble_eq_true rfl) ⟨Nat.le_of_ble_eq_true rfl, Nat.le_of_ble_eq_true rfl⟩ ?_
    refine lv_if_eq (tgt := 50) hx hb dX2_of_25 (by decide) (fun c_2 => ?_) (fun c_2 => ?_)
    · refine lv_iconst (v := (1 : Int32)) hx hb dX2_of_50 qi_1 ?_
      refine lv_goto (tgt := 55) hx hb dX2_of_51 (by decide) ?_
      refine wcVi (as := [.int (fX2_isNone p0), .int (1 : Int32)]) (rest := []) (cl := RX2) C (c_X2_refuses l G b T (fX2_isNone p0) (1 : Int32)) F_X2_refuses rfl bw1219 bw1221 bw33 (hE.S hS hAB) hP hD hS hA hAB (rv4 hE.K hP (q0 := 0) rfl) hl.1 dX2_of_55 ⟨Nat.le_of_ble_eq_true rfl, Nat.le_of_ble_eq_true rfl⟩ rfl (Nat.le_of_ble_eq_true rfl) ⟨Nat.le_of_ble_eq_true rfl, Nat.le_of_ble_eq_true rfl⟩ (fun H locs hP hD hS => ?_)
      have hP : va_P (gD G) vwCl (wM G b ((fth (fX2_isNone p0) (1 : Int32)), (my T), (mm T), (md T), (mt T), (T.2.2.2.2.2))) H := hP
      have hD : va_D A (wM G b ((fth (fX2_isNone p0) (1 : Int32)), (my T), (mm T), (md T), (mt T), (T.2.2.2.2.2))) := hD
      refine lv_if_eq (tgt := 63) hx hb dX2_of_58 (by decide) (fun c_x => absurd c_x (frf_1 (fX2_isNone p0))) (fun _ => ?_)
      refine lv_iconst (v := (0 : Int32)) hx hb dX2_of_61 qi_0 ?_
      exact we_i (wf := wM G b) hx hb hr hk hP hD hS (Nat.le_of_ble_eq_true rfl) (Nat.le_of_ble_eq_true rfl) dX2_of_62 (Eq.trans (if_neg c_1) (if_pos c_2))
    · refine lv_iconst (v := (1 : Int32)) hx hb dX2_of_28 qi_1 ?_
      refine lv_bipush (v := (31 : Int32)) hx hb dX2_of_29 qb_31 ?_
      refine lv_iload hx hb dX2_of_31 (lv_at hl 4 rfl) ?_
      refine rcSi (as := [.int (1 : Int32), .int (31 : Int32), .int p3]) (rest := [.int (fX2_isNone p0), .ref (b 0)]) C (c_X2_isFrom l G (1 : Int32) (31 : Int32) p3) F_X2_isFrom rfl bw1208 bw1209 (hE.S hS hAB) vpn hl.1 dX2_of_33 ⟨Nat.le_of_ble_eq_true rfl, Nat.le_of_ble_eq_true rfl⟩ rfl (Nat.le_of_ble_eq_true rfl) ⟨Nat.le_of_ble_eq_true rfl, Nat.le_of_ble_eq_true rfl⟩ ?_
      refine lv_if_eq (tgt := 50) hx hb dX2_of_36 (by decide) (fun c_3 => ?_) (fun c_3 => ?_)
      · refine lv_iconst (v := (1 : Int32)) hx hb dX2_of_50 qi_1 ?_
        refine lv_goto (tgt := 55) hx hb dX2_of_51 (by decide) ?_
        refine wcVi (as := [.int (fX2_isNone p0), .int (1 : Int32)]) (rest := []) (cl := RX2) C (c_X2_refuses l G b T (fX2_isNone p0) (1 : Int32)) F_X2_refuses rfl bw1219 bw1221 bw33 (hE.S hS hAB) hP hD hS hA hAB (rv4 hE.K hP (q0 := 0) rfl) hl.1 dX2_of_55 ⟨Nat.le_of_ble_eq_true rfl, Nat.le_of_ble_eq_true rfl⟩ rfl (Nat.le_of_ble_eq_true rfl) ⟨Nat.le_of_ble_eq_true rfl, Nat.le_of_ble_eq_true rfl⟩ (fun H locs hP hD hS => ?_)
        have hP : va_P (gD G) vwCl (wM G b ((fth (fX2_isNone p0) (1 : Int32)), (my T), (mm T), (md T), (mt T), (T.2.2.2.2.2))) H := hP
        have hD : va_D A (wM G b ((fth (fX2_isNone p0) (1 : Int32)), (my T), (mm T), (md T), (mt T), (T.2.2.2.2.2))) := hD
        refine lv_if_eq (tgt := 63) hx hb dX2_of_58 (by decide) (fun c_x => absurd c_x (frf_1 (fX2_isNone p0))) (fun _ => ?_)
        refine lv_iconst (v := (0 : Int32)) hx hb dX2_of_61 qi_0 ?_
        exact we_i (wf := wM G b) hx hb hr hk hP hD hS (Nat.le_of_ble_eq_true rfl) (Nat.le_of_ble_eq_true rfl) dX2_of_62 (Eq.trans (if_neg c_1) (Eq.trans (if_neg c_2) (if_pos c_3)))
      · refine lv_iconst (v := (0 : Int32)) hx hb dX2_of_39 qi_0 ?_
        refine lv_bipush (v := (6 : Int32)) hx hb dX2_of_40 qb_6 ?_
        refine lv_iload hx hb dX2_of_42 (lv_at hl 5 rfl) ?_
        refine rcSi (as := [.int (0 : Int32), .int (6 : Int32), .int p4]) (rest := [.int (fX2_isNone p0), .ref (b 0)]) C (c_X2_isFrom l G (0 : Int32) (6 : Int32) p4) F_X2_isFrom rfl bw1208 bw1209 (hE.S hS hAB) vpn hl.1 dX2_of_44 ⟨Nat.le_of_ble_eq_true rfl, Nat.le_of_ble_eq_true rfl⟩ rfl (Nat.le_of_ble_eq_true rfl) ⟨Nat.le_of_ble_eq_true rfl, Nat.le_of_ble_eq_true rfl⟩ ?_
        refine k_dia (b := (fX2_isFrom (0 : Int32) (6 : Int32) p4) = 0) (x := (1 : Int32)) (y := (0 : Int32)) (Wg := fun z9 => W _ _ _ _ _ _ _ _ _ _ _ _ _ _ _ (F0 m 55 ls (.int z9 :: _))) ?_ (fun t9 f9 => lv_if_ne (tgt := 54) hx hb dX2_of_47 (by decide) (fun c_x => lv_iconst (v := (0 : Int32)) hx hb dX2_of_54 qi_0 (f9 c_x)) (fun c_x => lv_iconst (v := (1 : Int32)) hx hb dX2_of_50 qi_1 (lv_goto (tgt := 55) hx hb dX2_of_51 (by decide) (t9 c_x))))
        refine wcVi (as := [.int (fX2_isNone p0), .int (if (fX2_isFrom (0 : Int32) (6 : Int32) p4) = 0 then (1 : Int32) else (0 : Int32))]) (rest := []) (cl := RX2) C (c_X2_refuses l G b T (fX2_isNone p0) (if (fX2_isFrom (0 : Int32) (6 : Int32) p4) = 0 then (1 : Int32) else (0 : Int32))) F_X2_refuses rfl bw1219 bw1221 bw33 (hE.S hS hAB) hP hD hS hA hAB (rv4 hE.K hP (q0 := 0) rfl) hl.1 dX2_of_55 ⟨Nat.le_of_ble_eq_true rfl, Nat.le_of_ble_eq_true rfl⟩ rfl (Nat.le_of_ble_eq_true rfl) ⟨Nat.le_of_ble_eq_true rfl, Nat.le_of_ble_eq_true rfl⟩ (fun H locs hP hD hS => ?_)
        have hP : va_P (gD G) vwCl (wM G b ((fth (fX2_isNone p0) (if (fX2_isFrom (0 : Int32) (6 : Int32) p4) = 0 then (1 : Int32) else (0 : Int32))), (my T), (mm T), (md T), (mt T), (T.2.2.2.2.2))) H := hP
        have hD : va_D A (wM G b ((fth (fX2_isNone p0) (if (fX2_isFrom (0 : Int32) (6 : Int32) p4) = 0 then (1 : Int32) else (0 : Int32))), (my T), (mm T), (md T), (mt T), (T.2.2.2.2.2))) := hD
        refine lv_if_eq (tgt := 63) hx hb dX2_of_58 (by decide) (fun c_4 => ?_) (fun c_4 => ?_)
        · have c_4 := rf_p c_4
          refine lv_iload hx hb dX2_of_63 (lv_at hl 4 rfl) ?_
          refine lv_iload_n hx hb dX2_of_65 rfl (lv_at hl 2 rfl) ?_
          refine lv_iload_n hx hb dX2_of_66 rfl (lv_at hl 3 rfl) ?_
          refine rcSi (as := [.int p1, .int p2]) (rest := [.int p3]) C (c_X2_daysOf l G p1 p2) F_X2_daysOf rfl bw1223 bw1224 (hE.S hS hAB) vpn hl.1 dX2_of_67 ⟨Nat.le_of_ble_eq_true rfl, Nat.le_of_ble_eq_true rfl⟩ rfl (Nat.le_of_ble_eq_true rfl) ⟨Nat.le_of_ble_eq_true rfl, Nat.le_of_ble_eq_true rfl⟩ ?_
          refine lv_icmp_le (tgt := 78) hx hb dX2_of_70 (by decide) (fun c_5 => ?_) (fun c_5 => ?_)
          · refine lv_aload_n hx hb dX2_of_78 rfl (lv_at hl 0 rfl) ?_
            refine lv_iload_n hx hb dX2_of_79 rfl (lv_at hl 1 rfl) ?_
            refine lv_iload_n hx hb dX2_of_80 rfl (lv_at hl 2 rfl) ?_
            refine lv_iload_n hx hb dX2_of_81 rfl (lv_at hl 3 rfl) ?_
            refine lv_iload hx hb dX2_of_82 (lv_at hl 4 rfl) ?_
            refine lv_aload_n hx hb dX2_of_84 rfl (lv_at hl 0 rfl) ?_
            refine lv_iload hx hb dX2_of_85 (lv_at hl 5 rfl) ?_
            refine lv_bipush (v := (6 : Int32)) hx hb dX2_of_87 qb_6 ?_
            refine lv_icmp_ne (tgt := 96) hx hb dX2_of_89 (by decide) (fun c_6 => ?_) (fun c_6 => ?_)
            · refine lv_iload hx hb dX2_of_96 (lv_at hl 5 rfl) ?_
              refine lv_iconst (v := (3 : Int32)) hx hb dX2_of_98 qi_3 ?_
              refine lv_irem hx hb dX2_of_99 (by decide) ?_
              refine rcVl (as := [.int (p4 - p4 / (3 : Int32) * (3 : Int32))]) (rest := [.int p3, .int p2, .int p1, .int p0, .ref (b 0)]) (cl := RX2) C (c_X2_handTime l G b ((fth (fX2_isNone p0) (if (fX2_isFrom (0 : Int32) (6 : Int32) p4) = 0 then (1 : Int32) else (0 : Int32))), (my T), (mm T), (md T), (mt T), (T.2.2.2.2.2)) (p4 - p4 / (3 : Int32) * (3 : Int32))) F_X2_handTime rfl bw1233 bw1235 bw35 (hE.S hS hAB) hP (rv4 hE.K hP (q0 := 0) rfl) hl.1 dX2_of_100 ⟨Nat.le_of_ble_eq_true rfl, Nat.le_of_ble_eq_true rfl⟩ rfl (Nat.le_of_ble_eq_true rfl) ⟨Nat.le_of_ble_eq_true rfl, Nat.le_of_ble_eq_true rfl⟩ ?_
              refine wcVi (as := [.int p0, .int p1, .int p2, .int p3, .long (fX2_handTime ((fth (fX2_isNone p0) (if (fX2_isFrom (0 : Int32) (6 : Int32) p4) = 0 then (1 : Int32) else (0 : Int32))), (my T), (mm T), (md T), (mt T), (T.2.2.2.2.2)) (p4 - p4 / (3 : Int32) * (3 : Int32)))]) (rest := []) (cl := RX2) C (c_X2_become l G b ((fth (fX2_isNone p0) (if (fX2_isFrom (0 : Int32) (6 : Int32) p4) = 0 then (1 : Int32) else (0 : Int32))), (my T), (mm T), (md T), (mt T), (T.2.2.2.2.2)) p0 p1 p2 p3 (fX2_handTime ((fth (fX2_isNone p0) (if (fX2_isFrom (0 : Int32) (6 : Int32) p4) = 0 then (1 : Int32) else (0 : Int32))), (my T), (mm T), (md T), (mt T), (T.2.2.2.2.2)) (p4 - p4 / (3 : Int32) * (3 : Int32))) (none_in (frf_a c_4)) (MO.same hT rfl) (from_le c_2)) F_X2_become rfl bw1239 bw1241 bw36 (hE.S hS hAB) hP hD hS hA hAB (rv4 hE.K hP (q0 := 0) rfl) hl.1 dX2_of_103 ⟨Nat.le_of_ble_eq_true rfl, Nat.le_of_ble_eq_true rfl⟩ rfl (Nat.le_of_ble_eq_true rfl) ⟨Nat.le_of_ble_eq_true rfl, Nat.le_of_ble_eq_true rfl⟩ (fun H locs hP hD hS => ?_)
              exact we_i (wf := wM G b) hx hb hr hk hP hD hS (Nat.le_of_ble_eq_true rfl) (Nat.le_of_ble_eq_true rfl) dX2_of_106 (Eq.trans (if_neg c_1) (Eq.trans (if_neg c_2) (Eq.trans (if_neg c_3) (Eq.trans (if_pos c_4) (Eq.trans (if_pos c_5) (if_neg c_6))))))
            · refine lv_iconst (v := (2 : Int32)) hx hb dX2_of_92 qi_2 ?_
              refine lv_goto (tgt := 100) hx hb dX2_of_93 (by decide) ?_
              refine rcVl (as := [.int (2 : Int32)]) (rest := [.int p3, .int p2, .int p1, .int p0, .ref (b 0)]) (cl := RX2) C (c_X2_handTime l G b ((fth (fX2_isNone p0) (if (fX2_isFrom (0 : Int32) (6 : Int32) p4) = 0 then (1 : Int32) else (0 : Int32))), (my T), (mm T), (md T), (mt T), (T.2.2.2.2.2)) (2 : Int32)) F_X2_handTime rfl bw1233 bw1235 bw35 (hE.S hS hAB) hP (rv4 hE.K hP (q0 := 0) rfl) hl.1 dX2_of_100 ⟨Nat.le_of_ble_eq_true rfl, Nat.le_of_ble_eq_true rfl⟩ rfl (Nat.le_of_ble_eq_true rfl) ⟨Nat.le_of_ble_eq_true rfl, Nat.le_of_ble_eq_true rfl⟩ ?_
              refine wcVi (as := [.int p0, .int p1, .int p2, .int p3, .long (fX2_handTime ((fth (fX2_isNone p0) (if (fX2_isFrom (0 : Int32) (6 : Int32) p4) = 0 then (1 : Int32) else (0 : Int32))), (my T), (mm T), (md T), (mt T), (T.2.2.2.2.2)) (2 : Int32))]) (rest := []) (cl := RX2) C (c_X2_become l G b ((fth (fX2_isNone p0) (if (fX2_isFrom (0 : Int32) (6 : Int32) p4) = 0 then (1 : Int32) else (0 : Int32))), (my T), (mm T), (md T), (mt T), (T.2.2.2.2.2)) p0 p1 p2 p3 (fX2_handTime ((fth (fX2_isNone p0) (if (fX2_isFrom (0 : Int32) (6 : Int32) p4) = 0 then (1 : Int32) else (0 : Int32))), (my T), (mm T), (md T), (mt T), (T.2.2.2.2.2)) (2 : Int32)) (none_in (frf_a c_4)) (MO.same hT rfl) (from_le c_2)) F_X2_become rfl bw1239 bw1241 bw36 (hE.S hS hAB) hP hD hS hA hAB (rv4 hE.K hP (q0 := 0) rfl) hl.1 dX2_of_103 ⟨Nat.le_of_ble_eq_true rfl, Nat.le_of_ble_eq_true rfl⟩ rfl (Nat.le_of_ble_eq_true rfl) ⟨Nat.le_of_ble_eq_true rfl, Nat.le_of_ble_eq_true rfl⟩ (fun H locs hP hD hS => ?_)
              exact we_i (wf := wM G b) hx hb hr hk hP hD hS (Nat.le_of_ble_eq_true rfl) (Nat.le_of_ble_eq_true rfl) dX2_of_106 (Eq.trans (if_neg c_1) (Eq.trans (if_neg c_2) (Eq.trans (if_neg c_3) (Eq.trans (if_pos c_4) (Eq.trans (if_pos c_5) (if_pos c_6))))))
          · refine lv_aload_n hx hb dX2_of_73 rfl (lv_at hl 0 rfl) ?_
            refine wcVi (as := []) (rest := []) (cl := RX2) C (c_X2_refuse l G b ((fth (fX2_isNone p0) (if (fX2_isFrom (0 : Int32) (6 : Int32) p4) = 0 then (1 : Int32) else (0 : Int32))), (my T), (mm T), (md T), (mt T), (T.2.2.2.2.2))) F_X2_refuse rfl bw1229 bw1231 bw34 (hE.S hS hAB) hP hD hS hA hAB (rv4 hE.K hP (q0 := 0) rfl) hl.1 dX2_of_74 ⟨Nat.le_of_ble_eq_true rfl, Nat.le_of_ble_eq_true rfl⟩ rfl (Nat.le_of_ble_eq_true rfl) ⟨Nat.le_of_ble_eq_true rfl, Nat.le_of_ble_eq_true rfl⟩ (fun H locs hP hD hS => ?_)
            exact we_i (wf := wM G b) hx hb hr hk hP hD hS (Nat.le_of_ble_eq_true rfl) (Nat.le_of_ble_eq_true rfl) dX2_of_77 (Eq.trans (if_neg c_1) (Eq.trans (if_neg c_2) (Eq.trans (if_neg c_3) (Eq.trans (if_pos c_4) (if_neg c_5)))))
        · have c_4 := rf_n c_4
          refine lv_iconst (v := (0 : Int32)) hx hb dX2_of_61 qi_0 ?_
          exact we_i (wf := wM G b) hx hb hr hk hP hD hS (Nat.le_of_ble_eq_true rfl) (Nat.le_of_ble_eq_true rfl) dX2_of_62 (Eq.trans (if_neg c_1) (Eq.trans (if_neg c_2) (Eq.trans (if_neg c_3) (if_neg c_4))))

set_option maxRecDepth 100000 in
set_option maxHeartbeats 4000000 in
theorem c_X2_ofDay (l : Launch) (G : GT) (b : Nat → Nat) (T : SM) (p0 : Int32) (p1 : Int32) (hT : MO T) : WR l G yX2_ofDay cX2_ofDay 3 (some .int) 12 1 3 [.ref (b 0), .int p0, .int p1] (wM G b T) (wM G b (gX2_ofDay T p0 p1).2) (some (.int (gX2_ofDay T p0 p1).1)) := by
  refine WR.ofW (own := RX2) rfl (plainFor_of_name pnN_RX2) (Nat.le_of_ble_eq_true rfl) ?_
  intro p e s m below meth c A C hr hk hnm hE hP hD hA hAB hS ls hl
  have hx := C.1
  have hb := C.2.1
  have hown := C.2.2.2.1
  have hw := C.2.2.2.2
  have hl : lv_has ls 3 [(0, .ref (b 0)), (1, .int p0), (2, .int p1)] := hl
  refine lv_aload_n hx hb dX2_ofDay_0 rfl (lv_at hl 0 rfl) ?_
  refine lv_iload_n hx hb dX2_ofDay_1 rfl (lv_at hl 1 rfl) ?_
  refine rcSi (as := [.int p0]) (rest := [.ref (b 0)]) C (c_X2_isNone l G p0) F_X2_isNone rfl bw1216 bw1217 (hE.S hS hAB) vpn hl.1 dX2_ofDay_2 ⟨Nat.le_of_ble_eq_true rfl, Nat.le_of_ble_eq_true rfl⟩ rfl (Nat.le_of_ble_eq_true rfl) ⟨Nat.le_of_ble_eq_true rfl, Nat.le_of_ble_eq_true rfl⟩ ?_
  refine lv_ldc (v := (-10000000 : Int32)) hx hb hown (hw _ bw1279) dX2_ofDay_5 ?_
  refine lv_ldc (v := (10000000 : Int32)) hx hb hown (hw _ bw1280) dX2_ofDay_7 ?_
  refine lv_iload_n hx hb dX2_ofDay_9 rfl (lv_at hl 2 rfl) ?_
  refine rcSi (as := [.int (-10000000 : Int32), .int (10000000 : Int32), .int p1]) (rest := [.int (fX2_isNone p0), .ref (b 0)]) C (c_X2_isFrom l G (-10000000 : Int32) (10000000 : Int32) p1) F_X2_isFrom rfl bw1208 bw1209 (hE.S hS hAB) vpn hl.1 dX2_ofDay_10 ⟨Nat.le_of_ble_eq_true rfl, Nat.le_of_ble_eq_true rfl⟩ rfl (Nat.le_of_ble_eq_true rfl) ⟨Nat.le_of_ble_eq_true rfl, Nat.le_of_ble_eq_true rfl⟩ ?_
  refine k_dia (b := (fX2_isFrom (-10000000 : Int32) (10000000 : Int32) p1) = 0) (x := (1 : Int32)) (y := (0 : Int32)) (Wg := fun z9 => W _ _ _ _ _ _ _ _ _ _ _ _ _ _ _ (F0 m 21 ls (.int z9 :: _))) ?_ (fun t9 f9 => lv_if_ne (tgt := 20) hx hb dX2_ofDay_13 (by decide) (fun c_x => lv_iconst (v := (0 : Int32)) hx hb dX2_ofDay_20 qi_0 (f9 c_x)) (fun c_x => lv_iconst (v := (1 : Int32)) hx hb dX2_ofDay_16 qi_1 (lv_goto (tgt := 21) hx hb dX2_ofDay_17 (by decide) (t9 c_x))))
  refine wcVi (as := [.int (fX2_isNone p0), .int (if (fX2_isFrom (-10000000 : Int32) (10000000 : Int32) p1) = 0 then (1 : Int32) else (0 : Int32))]) (rest := []) (cl := RX2) C (c_X2_refuses l G b T (fX2_isNone p0) (if (fX2_isFrom (-10000000 : Int32) (10000000 : Int32) p1) = 0 then (1 : Int32) else (0 : Int32))) F_X2_refuses rfl bw1219 bw1221 bw33 (hE.S hS hAB) hP hD hS hA hAB (rv4 hE.K hP (q0 := 0) rfl) hl.1 dX2_ofDay_21 ⟨Nat.le_of_ble_eq_true rfl, Nat.le_of_ble_eq_true rfl⟩ rfl (Nat.le_of_ble_eq_true rfl) ⟨Nat.le_of_ble_eq_true rfl, Nat.le_of_ble_eq_true rfl⟩ (fun H locs hP hD hS => ?_)
  have hP : va_P (gD G) vwCl (wM G b ((fth (fX2_isNone p0) (if (fX2_isFrom (-10000000 : Int32) (10000000 : Int32) p1) = 0 then (1 : Int32) else (0 : Int32))), (my T), (mm T), (md T), (mt T), (T.2.2.2.2.2))) H := hP
  have hD : va_D A (wM G b ((fth (fX2_isNone p0) (if (fX2_isFrom (-10000000 : Int32) (10000000 : Int32) p1) = 0 then (1 : Int32) else (0 : Int32))), (my T), (mm T), (md T), (mt T), (T.2.2.2.2.2))) := hD
  refine lv_if_eq (tgt := 29) hx hb dX2_ofDay_24 (by decide) (fun c_1 => ?_) (fun c_1 => ?_)
  · have c_1 := rf_p c_1
    refine lv_aload_n hx hb dX2_ofDay_29 rfl (lv_at hl 0 rfl) ?_
    refine lv_iload_n hx hb dX2_ofDay_30 rfl (lv_at hl 1 rfl) ?_
    refine lv_iload_n hx hb dX2_ofDay_31 rfl (lv_at hl 2 rfl) ?_
    refine lv_i2l (v := (p1.toInt64)) hx hb dX2_ofDay_32 (by first | rfl | decide) ?_
    refine lv_aload_n hx hb dX2_ofDay_33 rfl (lv_at hl 0 rfl) ?_
    refine lv_iconst (v := (2 : Int32)) hx hb dX2_ofDay_34 qi_2 ?_
    refine rcVl (as := [.int (2 : Int32)]) (rest := [.long (p1.toInt64), .int p0, .ref (b 0)]) (cl := RX2) C (c_X2_handTime l G b ((fth (fX2_isNone p0) (if (fX2_isFrom (-10000000 : Int32) (10000000 : Int32) p1) = 0 then (1 : Int32) else (0 : Int32))), (my T), (mm T), (md T), (mt T), (T.2.2.2.2.2)) (2 : Int32)) F_X2_handTime rfl bw1233 bw1235 bw35 (hE.S hS hAB) hP (rv4 hE.K hP (q0 := 0) rfl) hl.1 dX2_ofDay_35 ⟨Nat.le_of_ble_eq_true rfl, Nat.le_of_ble_eq_true rfl⟩ rfl (Nat.le_of_ble_eq_true rfl) ⟨Nat.le_of_ble_eq_true rfl, Nat.le_of_ble_eq_true rfl⟩ ?_
    refine wcVi (as := [.int p0, .long (p1.toInt64), .long (fX2_handTime ((fth (fX2_isNone p0) (if (fX2_isFrom (-10000000 : Int32) (10000000 : Int32) p1) = 0 then (1 : Int32) else (0 : Int32))), (my T), (mm T), (md T), (mt T), (T.2.2.2.2.2)) (2 : Int32))]) (rest := []) (cl := RX2) C (c_X2_becomeDay l G b ((fth (fX2_isNone p0) (if (fX2_isFrom (-10000000 : Int32) (10000000 : Int32) p1) = 0 then (1 : Int32) else (0 : Int32))), (my T), (mm T), (md T), (mt T), (T.2.2.2.2.2)) p0 (p1.toInt64) (fX2_handTime ((fth (fX2_isNone p0) (if (fX2_isFrom (-10000000 : Int32) (10000000 : Int32) p1) = 0 then (1 : Int32) else (0 : Int32))), (my T), (mm T), (md T), (mt T), (T.2.2.2.2.2)) (2 : Int32)) (none_in (frf_a c_1)) (MO.same hT rfl)) F_X2_becomeDay rfl bw1281 bw1283 bw39 (hE.S hS hAB) hP hD hS hA hAB (rv4 hE.K hP (q0 := 0) rfl) hl.1 dX2_ofDay_38 ⟨Nat.le_of_ble_eq_true rfl, Nat.le_of_ble_eq_true rfl⟩ rfl (Nat.le_of_ble_eq_true rfl) ⟨Nat.le_of_ble_eq_true rfl, Nat.le_of_ble_eq_true rfl⟩ (fun H locs hP hD hS => ?_)
    exact we_i (wf := wM G b) hx hb hr hk hP hD hS (Nat.le_of_ble_eq_true rfl) (Nat.le_of_ble_eq_true rfl) dX2_ofDay_41 (if_pos c_1)
  · have c_1 := rf_n c_1
    refine lv_iconst (v := (0 : Int32)) hx hb dX2_ofDay_27 qi_0 ?_
    exact we_i (wf := wM G b) hx hb hr hk hP hD hS (Nat.le_of_ble_eq_true rfl) (Nat.le_of_ble_eq_true rfl) dX2_ofDay_28 (if_neg c_1)

set_option maxRecDepth 100000 in
set_option maxHeartbeats 4000000 in
theorem c_X2_copy (l : Launch) (G : GT) (b : Nat → Nat) (T : SM) (p0 : Int32) (p1 : Int32) (hT : MO T) : WR l G yX2_copy cX2_copy 3 (some .int) 12 0 0 [.ref (b 0), .int p0, .int p1] (wM G b T) (wM G b (gX2_copy T p0 p1).2) (some (.int (gX2_copy T p0 p1).1)) := by
  refine WR.ofW (own := RX2) rfl (plainFor_of_name pnN_RX2) (Nat.le_of_ble_eq_true rfl) ?_
  intro p e s m below meth c A C hr hk hnm hE hP hD hA hAB hS ls hl
  have hx := C.1
  have hb := C.2.1
  have hown := C.2.2.2.1
  have hw := C.2.2.2.2
  have hl : lv_has ls 3 [(0, .ref (b 0)), (1, .int p0), (2, .int p1)] := hl
  refine lv_aload_n hx hb dX2_copy_0 rfl (lv_at hl 0 rfl) ?_
  refine lv_iload_n hx hb dX2_copy_1 rfl (lv_at hl 1 rfl) ?_
  refine rcSi (as := [.int p0]) (rest := [.ref (b 0)]) C (c_X2_isNone l G p0) F_X2_isNone rfl bw1216 bw1217 (hE.S hS hAB) vpn hl.1 dX2_copy_2 ⟨Nat.le_of_ble_eq_true rfl, Nat.le_of_ble_eq_true rfl⟩ rfl (Nat.le_of_ble_eq_true rfl) ⟨Nat.le_of_ble_eq_true rfl, Nat.le_of_ble_eq_true rfl⟩ ?_
  refine lv_if_ne (tgt := 15) hx hb dX2_copy_5 (by decide) (fun c_1 => ?_) (fun c_1 => ?_)
  · refine lv_iconst (v := (1 : Int32)) hx hb dX2_copy_15 qi_1 ?_
    refine lv_goto (tgt := 20) hx hb dX2_copy_16 (by decide) ?_
    refine lv_iconst (v := (0 : Int32)) hx hb dX2_copy_20 qi_0 ?_
    refine wcVi (as := [.int (1 : Int32), .int (0 : Int32)]) (rest := []) (cl := RX2) C (c_X2_refuses l G b T (1 : Int32) (0 : Int32)) F_X2_refuses rfl bw1219 bw1221 bw33 (hE.S hS hAB) hP hD hS hA hAB (rv4 hE.K hP (q0 := 0) rfl) hl.1 dX2_copy_21 ⟨Nat.le_of_ble_eq_true rfl, Nat.le_of_ble_eq_true rfl⟩ rfl (Nat.le_of_ble_eq_true rfl) ⟨Nat.le_of_ble_eq_true rfl, Nat.le_of_ble_eq_true rfl⟩ (fun H locs hP hD hS => ?_)
    have hP : va_P (gD G) vwCl (wM G b ((fth (1 : Int32) (0 : Int32)), (my T), (mm T), (md T), (mt T), (T.2.2.2.2.2))) H := hP
    have hD : va_D A (wM G b ((fth (1 : Int32) (0 : Int32)), (my T), (mm T), (md T), (mt T), (T.2.2.2.2.2))) := hD
    refine lv_if_eq (tgt := 29) hx hb dX2_copy_24 (by decide) (fun c_x => absurd c_x (frf_l1 (0 : Int32))) (fun _ => ?_)
    refine lv_iconst (v := (0 : Int32)) hx hb dX2_copy_27 qi_0 ?_
    exact we_i (wf := wM G b) hx hb hr hk hP hD hS (Nat.le_of_ble_eq_true rfl) (Nat.le_of_ble_eq_true rfl) dX2_copy_28 (if_neg c_1)
  · refine lv_iload_n hx hb dX2_copy_8 rfl (lv_at hl 2 rfl) ?_
    refine rcSi (as := [.int p1]) (rest := [.ref (b 0)]) C (c_X2_isNone l G p1) F_X2_isNone rfl bw1216 bw1217 (hE.S hS hAB) vpn hl.1 dX2_copy_9 ⟨Nat.le_of_ble_eq_true rfl, Nat.le_of_ble_eq_true rfl⟩ rfl (Nat.le_of_ble_eq_true rfl) ⟨Nat.le_of_ble_eq_true rfl, Nat.le_of_ble_eq_true rfl⟩ ?_
    refine k_dia (b := (fX2_isNone p1) = 0) (x := (0 : Int32)) (y := (1 : Int32)) (Wg := fun z9 => W _ _ _ _ _ _ _ _ _ _ _ _ _ _ _ (F0 m 20 ls (.int z9 :: _))) ?_ (fun t9 f9 => lv_if_eq (tgt := 19) hx hb dX2_copy_12 (by decide) (fun c_x => lv_iconst (v := (0 : Int32)) hx hb dX2_copy_19 qi_0 (t9 c_x)) (fun c_x => lv_iconst (v := (1 : Int32)) hx hb dX2_copy_15 qi_1 (lv_goto (tgt := 20) hx hb dX2_copy_16 (by decide) (f9 c_x))))
    refine lv_iconst (v := (0 : Int32)) hx hb dX2_copy_20 qi_0 ?_
    refine wcVi (as := [.int (if (fX2_isNone p1) = 0 then (0 : Int32) else (1 : Int32)), .int (0 : Int32)]) (rest := []) (cl := RX2) C (c_X2_refuses l G b T (if (fX2_isNone p1) = 0 then (0 : Int32) else (1 : Int32)) (0 : Int32)) F_X2_refuses rfl bw1219 bw1221 bw33 (hE.S hS hAB) hP hD hS hA hAB (rv4 hE.K hP (q0 := 0) rfl) hl.1 dX2_copy_21 ⟨Nat.le_of_ble_eq_true rfl, Nat.le_of_ble_eq_true rfl⟩ rfl (Nat.le_of_ble_eq_true rfl) ⟨Nat.le_of_ble_eq_true rfl, Nat.le_of_ble_eq_true rfl⟩ (fun H locs hP hD hS => ?_)
    have hP : va_P (gD G) vwCl (wM G b ((fth (if (fX2_isNone p1) = 0 then (0 : Int32) else (1 : Int32)) (0 : Int32)), (my T), (mm T), (md T), (mt T), (T.2.2.2.2.2))) H := hP
    have hD : va_D A (wM G b ((fth (if (fX2_isNone p1) = 0 then (0 : Int32) else (1 : Int32)) (0 : Int32)), (my T), (mm T), (md T), (mt T), (T.2.2.2.2.2))) := hD
    refine lv_if_eq (tgt := 29) hx hb dX2_copy_24 (by decide) (fun c_2 => ?_) (fun c_2 => ?_)
    · have c_2 := rf_p c_2
      refine lv_aload_n hx hb dX2_copy_29 rfl (lv_at hl 0 rfl) ?_
      refine lv_iload_n hx hb dX2_copy_30 rfl (lv_at hl 1 rfl) ?_
      refine lv_aload_n hx hb dX2_copy_31 rfl (lv_at hl 0 rfl) ?_
      refine va_get (D := gD G) (cl := vwCl) (tys := gT G) (ci := 4) (v := .ref (b 1)) (C := RX2) (T := TX2) (N := 12) hx hb hw inB_X2 hown hE.K hP 0 rfl rfl 1 (by decide) (hw _ bw1164) (fun _ h9 => h9) rfl dX2_copy_32 ?_
      refine lv_iload_n hx hb dX2_copy_35 rfl (lv_at hl 2 rfl) ?_
      refine va_iald (tys := gT G) hx hb hE.K hP 1 0 rfl rfl (none_in (dia0 (frf_a c_2))) dX2_copy_36 ?_
      refine lv_aload_n hx hb dX2_copy_37 rfl (lv_at hl 0 rfl) ?_
      refine va_get (D := gD G) (cl := vwCl) (tys := gT G) (ci := 4) (v := .ref (b 2)) (C := RX2) (T := TX2) (N := 12) hx hb hw inB_X2 hown hE.K hP 0 rfl rfl 2 (by decide) (hw _ bw1165) (fun _ h9 => h9) rfl dX2_copy_38 ?_
      refine lv_iload_n hx hb dX2_copy_41 rfl (lv_at hl 2 rfl) ?_
      refine va_iald (tys := gT G) hx hb hE.K hP 2 0 rfl rfl (none_in (dia0 (frf_a c_2))) dX2_copy_42 ?_
      refine lv_aload_n hx hb dX2_copy_43 rfl (lv_at hl 0 rfl) ?_
      refine va_get (D := gD G) (cl := vwCl) (tys := gT G) (ci := 4) (v := .ref (b 3)) (C := RX2) (T := TX2) (N := 12) hx hb hw inB_X2 hown hE.K hP 0 rfl rfl 3 (by decide) (hw _ bw1166) (fun _ h9 => h9) rfl dX2_copy_44 ?_
      refine lv_iload_n hx hb dX2_copy_47 rfl (lv_at hl 2 rfl) ?_
      refine va_iald (tys := gT G) hx hb hE.K hP 3 0 rfl rfl (none_in (dia0 (frf_a c_2))) dX2_copy_48 ?_
      refine lv_aload_n hx hb dX2_copy_49 rfl (lv_at hl 0 rfl) ?_
      refine va_get (D := gD G) (cl := vwCl) (tys := gT G) (ci := 4) (v := .ref (b 4)) (C := RX2) (T := TX2) (N := 12) hx hb hw inB_X2 hown hE.K hP 0 rfl rfl 4 (by decide) (hw _ bw1167) (fun _ h9 => h9) rfl dX2_copy_50 ?_
      refine lv_iload_n hx hb dX2_copy_53 rfl (lv_at hl 2 rfl) ?_
      refine va_lald (tys := gT G) hx hb hE.K hP 4 1 rfl rfl (none_in (dia0 (frf_a c_2))) dX2_copy_54 ?_
      refine wcVi (as := [.int p0, .int ((my T) p1.toNatClampNeg), .int ((mm T) p1.toNatClampNeg), .int ((md T) p1.toNatClampNeg), .long ((mt T) p1.toNatClampNeg)]) (rest := []) (cl := RX2) C (c_X2_become l G b ((fth (if (fX2_isNone p1) = 0 then (0 : Int32) else (1 : Int32)) (0 : Int32)), (my T), (mm T), (md T), (mt T), (T.2.2.2.2.2)) p0 ((my T) p1.toNatClampNeg) ((mm T) p1.toNatClampNeg) ((md T) p1.toNatClampNeg) ((mt T) p1.toNatClampNeg) (none_in c_1) (MO.same hT rfl) (MO.at hT (none_in (dia0 (frf_a c_2))))) F_X2_become rfl bw1239 bw1241 bw36 (hE.S hS hAB) hP hD hS hA hAB (rv4 hE.K hP (q0 := 0) rfl) hl.1 dX2_copy_55 ⟨Nat.le_of_ble_eq_true rfl, Nat.le_of_ble_eq_true rfl⟩ rfl (Nat.le_of_ble_eq_true rfl) ⟨Nat.le_of_ble_eq_true rfl, Nat.le_of_ble_eq_true rfl⟩ (fun H locs hP hD hS => ?_)
      exact we_i (wf := wM G b) hx hb hr hk hP hD hS (Nat.le_of_ble_eq_true rfl) (Nat.le_of_ble_eq_true rfl) dX2_copy_58 (Eq.trans (if_pos c_1) (if_pos c_2))
    · have c_2 := rf_n c_2
      refine lv_iconst (v := (0 : Int32)) hx hb dX2_copy_27 qi_0 ?_
      exact we_i (wf := wM G b) hx hb hr hk hP hD hS (Nat.le_of_ble_eq_true rfl) (Nat.le_of_ble_eq_true rfl) dX2_copy_28 (Eq.trans (if_pos c_1) (if_neg c_2))

set_option maxRecDepth 100000 in
set_option maxHeartbeats 4000000 in
theorem c_X2_takeDate (l : Launch) (G : GT) (b : Nat → Nat) (T : SM) (p0 : Int32) (p1 : Int32) (hT : MO T) : WR l G yX2_takeDate cX2_takeDate 3 (some .int) 12 0 0 [.ref (b 0), .int p0, .int p1] (wM G b T) (wM G b (gX2_takeDate T p0 p1).2) (some (.int (gX2_takeDate T p0 p1).1)) := by
  refine WR.ofW (own := RX2) rfl (plainFor_of_name pnN_RX2) (Nat.le_of_ble_eq_true rfl) ?_
  intro p e s m below meth c A C hr hk hnm hE hP hD hA hAB hS ls hl
  have hx := C.1
  have hb := C.2.1
  have hown := C.2.2.2.1
  have hw := C.2.2.2.2
  have hl : lv_has ls 3 [(0, .ref (b 0)), (1, .int p0), (2, .int p1)] := hl
  refine lv_aload_n hx hb dX2_takeDate_0 rfl (lv_at hl 0 rfl) ?_
  refine lv_iload_n hx hb dX2_takeDate_1 rfl (lv_at hl 1 rfl) ?_
  refine rcSi (as := [.int p0]) (rest := [.ref (b 0)]) C (c_X2_isNone l G p0) F_X2_isNone rfl bw1216 bw1217 (hE.S hS hAB) vpn hl.1 dX2_takeDate_2 ⟨Nat.le_of_ble_eq_true rfl, Nat.le_of_ble_eq_true rfl⟩ rfl (Nat.le_of_ble_eq_true rfl) ⟨Nat.le_of_ble_eq_true rfl, Nat.le_of_ble_eq_true rfl⟩ ?_
  refine lv_if_ne (tgt := 15) hx hb dX2_takeDate_5 (by decide) (fun c_1 => ?_) (fun c_1 => ?_)
  · refine lv_iconst (v := (1 : Int32)) hx hb dX2_takeDate_15 qi_1 ?_
    refine lv_goto (tgt := 20) hx hb dX2_takeDate_16 (by decide) ?_
    refine lv_iconst (v := (0 : Int32)) hx hb dX2_takeDate_20 qi_0 ?_
    refine wcVi (as := [.int (1 : Int32), .int (0 : Int32)]) (rest := []) (cl := RX2) C (c_X2_refuses l G b T (1 : Int32) (0 : Int32)) F_X2_refuses rfl bw1219 bw1221 bw33 (hE.S hS hAB) hP hD hS hA hAB (rv4 hE.K hP (q0 := 0) rfl) hl.1 dX2_takeDate_21 ⟨Nat.le_of_ble_eq_true rfl, Nat.le_of_ble_eq_true rfl⟩ rfl (Nat.le_of_ble_eq_true rfl) ⟨Nat.le_of_ble_eq_true rfl, Nat.le_of_ble_eq_true rfl⟩ (fun H locs hP hD hS => ?_)
    have hP : va_P (gD G) vwCl (wM G b ((fth (1 : Int32) (0 : Int32)), (my T), (mm T), (md T), (mt T), (T.2.2.2.2.2))) H := hP
    have hD : va_D A (wM G b ((fth (1 : Int32) (0 : Int32)), (my T), (mm T), (md T), (mt T), (T.2.2.2.2.2))) := hD
    refine lv_if_eq (tgt := 29) hx hb dX2_takeDate_24 (by decide) (fun c_x => absurd c_x (frf_l1 (0 : Int32))) (fun _ => ?_)
    refine lv_iconst (v := (0 : Int32)) hx hb dX2_takeDate_27 qi_0 ?_
    exact we_i (wf := wM G b) hx hb hr hk hP hD hS (Nat.le_of_ble_eq_true rfl) (Nat.le_of_ble_eq_true rfl) dX2_takeDate_28 (if_neg c_1)
  · refine lv_iload_n hx hb dX2_takeDate_8 rfl (lv_at hl 2 rfl) ?_
    refine rcSi (as := [.int p1]) (rest := [.ref (b 0)]) C (c_X2_isNone l G p1) F_X2_isNone rfl bw1216 bw1217 (hE.S hS hAB) vpn hl.1 dX2_takeDate_9 ⟨Nat.le_of_ble_eq_true rfl, Nat.le_of_ble_eq_true rfl⟩ rfl (Nat.le_of_ble_eq_true rfl) ⟨Nat.le_of_ble_eq_true rfl, Nat.le_of_ble_eq_true rfl⟩ ?_
    refine k_dia (b := (fX2_isNone p1) = 0) (x := (0 : Int32)) (y := (1 : Int32)) (Wg := fun z9 => W _ _ _ _ _ _ _ _ _ _ _ _ _ _ _ (F0 m 20 ls (.int z9 :: _))) ?_ (fun t9 f9 => lv_if_eq (tgt := 19) hx hb dX2_takeDate_12 (by decide) (fun c_x => lv_iconst (v := (0 : Int32)) hx hb dX2_takeDate_19 qi_0 (t9 c_x)) (fun c_x => lv_iconst (v := (1 : Int32)) hx hb dX2_takeDate_15 qi_1 (lv_goto (tgt := 20) hx hb dX2_takeDate_16 (by decide) (f9 c_x))))
    refine lv_iconst (v := (0 : Int32)) hx hb dX2_takeDate_20 qi_0 ?_
    refine wcVi (as := [.int (if (fX2_isNone p1) = 0 then (0 : Int32) else (1 : Int32)), .int (0 : Int32)]) (rest := []) (cl := RX2) C (c_X2_refuses l G b T (if (fX2_isNone p1) = 0 then (0 : Int32) else (1 : Int32)) (0 : Int32)) F_X2_refuses rfl bw1219 bw1221 bw33 (hE.S hS hAB) hP hD hS hA hAB (rv4 hE.K hP (q0 := 0) rfl) hl.1 dX2_takeDate_21 ⟨Nat.le_of_ble_eq_true rfl, Nat.le_of_ble_eq_true rfl⟩ rfl (Nat.le_of_ble_eq_true rfl) ⟨Nat.le_of_ble_eq_true rfl, Nat.le_of_ble_eq_true rfl⟩ (fun H locs hP hD hS => ?_)
    have hP : va_P (gD G) vwCl (wM G b ((fth (if (fX2_isNone p1) = 0 then (0 : Int32) else (1 : Int32)) (0 : Int32)), (my T), (mm T), (md T), (mt T), (T.2.2.2.2.2))) H := hP
    have hD : va_D A (wM G b ((fth (if (fX2_isNone p1) = 0 then (0 : Int32) else (1 : Int32)) (0 : Int32)), (my T), (mm T), (md T), (mt T), (T.2.2.2.2.2))) := hD
    refine lv_if_eq (tgt := 29) hx hb dX2_takeDate_24 (by decide) (fun c_2 => ?_) (fun c_2 => ?_)
    · have c_2 := rf_p c_2
      refine lv_aload_n hx hb dX2_takeDate_29 rfl (lv_at hl 0 rfl) ?_
      refine lv_iload_n hx hb dX2_takeDate_30 rfl (lv_at hl 1 rfl) ?_
      refine lv_aload_n hx hb dX2_takeDate_31 rfl (lv_at hl 0 rfl) ?_
      refine va_get (D := gD G) (cl := vwCl) (tys := gT G) (ci := 4) (v := .ref (b 1)) (C := RX2) (T := TX2) (N := 12) hx hb hw inB_X2 hown hE.K hP 0 rfl rfl 1 (by decide) (hw _ bw1164) (fun _ h9 => h9) rfl dX2_takeDate_32 ?_
      refine lv_iload_n hx hb dX2_takeDate_35 rfl (lv_at hl 2 rfl) ?_
      refine va_iald (tys := gT G) hx hb hE.K hP 1 0 rfl rfl (none_in (dia0 (frf_a c_2))) dX2_takeDate_36 ?_
      refine lv_aload_n hx hb dX2_takeDate_37 rfl (lv_at hl 0 rfl) ?_
      refine va_get (D := gD G) (cl := vwCl) (tys := gT G) (ci := 4) (v := .ref (b 2)) (C := RX2) (T := TX2) (N := 12) hx hb hw inB_X2 hown hE.K hP 0 rfl rfl 2 (by decide) (hw _ bw1165) (fun _ h9 => h9) rfl dX2_takeDate_38 ?_
      refine lv_iload_n hx hb dX2_takeDate_41 rfl (lv_at hl 2 rfl) ?_
      refine va_iald (tys := gT G) hx hb hE.K hP 2 0 rfl rfl (none_in (dia0 (frf_a c_2))) dX2_takeDate_42 ?_
      refine lv_aload_n hx hb dX2_takeDate_43 rfl (lv_at hl 0 rfl) ?_
      refine va_get (D := gD G) (cl := vwCl) (tys := gT G) (ci := 4) (v := .ref (b 3)) (C := RX2) (T := TX2) (N := 12) hx hb hw inB_X2 hown hE.K hP 0 rfl rfl 3 (by decide) (hw _ bw1166) (fun _ h9 => h9) rfl dX2_takeDate_44 ?_
      refine lv_iload_n hx hb dX2_takeDate_47 rfl (lv_at hl 2 rfl) ?_
      refine va_iald (tys := gT G) hx hb hE.K hP 3 0 rfl rfl (none_in (dia0 (frf_a c_2))) dX2_takeDate_48 ?_
      refine lv_aload_n hx hb dX2_takeDate_49 rfl (lv_at hl 0 rfl) ?_
      refine va_get (D := gD G) (cl := vwCl) (tys := gT G) (ci := 4) (v := .ref (b 4)) (C := RX2) (T := TX2) (N := 12) hx hb hw inB_X2 hown hE.K hP 0 rfl rfl 4 (by decide) (hw _ bw1167) (fun _ h9 => h9) rfl dX2_takeDate_50 ?_
      refine lv_iload_n hx hb dX2_takeDate_53 rfl (lv_at hl 1 rfl) ?_
      refine va_lald (tys := gT G) hx hb hE.K hP 4 1 rfl rfl (none_in c_1) dX2_takeDate_54 ?_
      refine wcVi (as := [.int p0, .int ((my T) p1.toNatClampNeg), .int ((mm T) p1.toNatClampNeg), .int ((md T) p1.toNatClampNeg), .long ((mt T) p0.toNatClampNeg)]) (rest := []) (cl := RX2) C (c_X2_become l G b ((fth (if (fX2_isNone p1) = 0 then (0 : Int32) else (1 : Int32)) (0 : Int32)), (my T), (mm T), (md T), (mt T), (T.2.2.2.2.2)) p0 ((my T) p1.toNatClampNeg) ((mm T) p1.toNatClampNeg) ((md T) p1.toNatClampNeg) ((mt T) p0.toNatClampNeg) (none_in c_1) (MO.same hT rfl) (MO.at hT (none_in (dia0 (frf_a c_2))))) F_X2_become rfl bw1239 bw1241 bw36 (hE.S hS hAB) hP hD hS hA hAB (rv4 hE.K hP (q0 := 0) rfl) hl.1 dX2_takeDate_55 ⟨Nat.le_of_ble_eq_true rfl, Nat.le_of_ble_eq_true rfl⟩ rfl (Nat.le_of_ble_eq_true rfl) ⟨Nat.le_of_ble_eq_true rfl, Nat.le_of_ble_eq_true rfl⟩ (fun H locs hP hD hS => ?_)
      exact we_i (wf := wM G b) hx hb hr hk hP hD hS (Nat.le_of_ble_eq_true rfl) (Nat.le_of_ble_eq_true rfl) dX2_takeDate_58 (Eq.trans (if_pos c_1) (if_pos c_2))
    · have c_2 := rf_n c_2
      refine lv_iconst (v := (0 : Int32)) hx hb dX2_takeDate_27 qi_0 ?_
      exact we_i (wf := wM G b) hx hb hr hk hP hD hS (Nat.le_of_ble_eq_true rfl) (Nat.le_of_ble_eq_true rfl) dX2_takeDate_28 (Eq.trans (if_pos c_1) (if_neg c_2))

set_option maxRecDepth 100000 in
set_option maxHeartbeats 4000000 in
theorem c_X2_takeTime (l : Launch) (G : GT) (b : Nat → Nat) (T : SM) (p0 : Int32) (p1 : Int32) (hT : MO T) : WR l G yX2_takeTime cX2_takeTime 3 (some .int) 12 0 0 [.ref (b 0), .int p0, .int p1] (wM G b T) (wM G b (gX2_takeTime T p0 p1).2) (some (.int (gX2_takeTime T p0 p1).1)) := by
  refine WR.ofW (own := RX2) rfl (plainFor_of_name pnN_RX2) (Nat.le_of_ble_eq_true rfl) ?_
  intro p e s m below meth c A C hr hk hnm hE hP hD hA hAB hS ls hl
  have hx := C.1
  have hb := C.2.1
  have hown := C.2.2.2.1
  have hw := C.2.2.2.2
  have hl : lv_has ls 3 [(0, .ref (b 0)), (1, .int p0), (2, .int p1)] := hl
  refine lv_aload_n hx hb dX2_takeTime_0 rfl (lv_at hl 0 rfl) ?_
  refine lv_iload_n hx hb dX2_takeTime_1 rfl (lv_at hl 1 rfl) ?_
  refine rcSi (as := [.int p0]) (rest := [.ref (b 0)]) C (c_X2_isNone l G p0) F_X2_isNone rfl bw1216 bw1217 (hE.S hS hAB) vpn hl.1 dX2_takeTime_2 ⟨Nat.le_of_ble_eq_true rfl, Nat.le_of_ble_eq_true rfl⟩ rfl (Nat.le_of_ble_eq_true rfl) ⟨Nat.le_of_ble_eq_true rfl, Nat.le_of_ble_eq_true rfl⟩ ?_
  refine lv_if_ne (tgt := 15) hx hb dX2_takeTime_5 (by decide) (fun c_1 => ?_) (fun c_1 => ?_)
  · refine lv_iconst (v := (1 : Int32)) hx hb dX2_takeTime_15 qi_1 ?_
    refine lv_goto (tgt := 20) hx hb dX2_takeTime_16 (by decide) ?_
    refine lv_iconst (v := (0 : Int32)) hx hb dX2_takeTime_20 qi_0 ?_
    refine wcVi (as := [.int (1 : Int32), .int (0 : Int32)]) (rest := []) (cl := RX2) C (c_X2_refuses l G b T (1 : Int32) (0 : Int32)) F_X2_refuses rfl bw1219 bw1221 bw33 (hE.S hS hAB) hP hD hS hA hAB (rv4 hE.K hP (q0 := 0) rfl) hl.1 dX2_takeTime_21 ⟨Nat.le_of_ble_eq_true rfl, Nat.le_of_ble_eq_true rfl⟩ rfl (Nat.le_of_ble_eq_true rfl) ⟨Nat.le_of_ble_eq_true rfl, Nat.le_of_ble_eq_true rfl⟩ (fun H locs hP hD hS => ?_)
    have hP : va_P (gD G) vwCl (wM G b ((fth (1 : Int32) (0 : Int32)), (my T), (mm T), (md T), (mt T), (T.2.2.2.2.2))) H := hP
    have hD : va_D A (wM G b ((fth (1 : Int32) (0 : Int32)), (my T), (mm T), (md T), (mt T), (T.2.2.2.2.2))) := hD
    refine lv_if_eq (tgt := 29) hx hb dX2_takeTime_24 (by decide) (fun c_x => absurd c_x (frf_l1 (0 : Int32))) (fun _ => ?_)
    refine lv_iconst (v := (0 : Int32)) hx hb dX2_takeTime_27 qi_0 ?_
    exact we_i (wf := wM G b) hx hb hr hk hP hD hS (Nat.le_of_ble_eq_true rfl) (Nat.le_of_ble_eq_true rfl) dX2_takeTime_28 (if_neg c_1)
  · refine lv_iload_n hx hb dX2_takeTime_8 rfl (lv_at hl 2 rfl) ?_
    refine rcSi (as := [.int p1]) (rest := [.ref (b 0)]) C (c_X2_isNone l G p1) F_X2_isNone rfl bw1216 bw1217 (hE.S hS hAB) vpn hl.1 dX2_takeTime_9 ⟨Nat.le_of_ble_eq_true rfl, Nat.le_of_ble_eq_true rfl⟩ rfl (Nat.le_of_ble_eq_true rfl) ⟨Nat.le_of_ble_eq_true rfl, Nat.le_of_ble_eq_true rfl⟩ ?_
    refine k_dia (b := (fX2_isNone p1) = 0) (x := (0 : Int32)) (y := (1 : Int32)) (Wg := fun z9 => W _ _ _ _ _ _ _ _ _ _ _ _ _ _ _ (F0 m 20 ls (.int z9 :: _))) ?_ (fun t9 f9 => lv_if_eq (tgt := 19) hx hb dX2_takeTime_12 (by decide) (fun c_x => lv_iconst (v := (0 : Int32)) hx hb dX2_takeTime_19 qi_0 (t9 c_x)) (fun c_x => lv_iconst (v := (1 : Int32)) hx hb dX2_takeTime_15 qi_1 (lv_goto (tgt := 20) hx hb dX2_takeTime_16 (by decide) (f9 c_x))))
    refine lv_iconst (v := (0 : Int32)) hx hb dX2_takeTime_20 qi_0 ?_
    refine wcVi (as := [.int (if (fX2_isNone p1) = 0 then (0 : Int32) else (1 : Int32)), .int (0 : Int32)]) (rest := []) (cl := RX2) C (c_X2_refuses l G b T (if (fX2_isNone p1) = 0 then (0 : Int32) else (1 : Int32)) (0 : Int32)) F_X2_refuses rfl bw1219 bw1221 bw33 (hE.S hS hAB) hP hD hS hA hAB (rv4 hE.K hP (q0 := 0) rfl) hl.1 dX2_takeTime_21 ⟨Nat.le_of_ble_eq_true rfl, Nat.le_of_ble_eq_true rfl⟩ rfl (Nat.le_of_ble_eq_true rfl) ⟨Nat.le_of_ble_eq_true rfl, Nat.le_of_ble_eq_true rfl⟩ (fun H locs hP hD hS => ?_)
    have hP : va_P (gD G) vwCl (wM G b ((fth (if (fX2_isNone p1) = 0 then (0 : Int32) else (1 : Int32)) (0 : Int32)), (my T), (mm T), (md T), (mt T), (T.2.2.2.2.2))) H := hP
    have hD : va_D A (wM G b ((fth (if (fX2_isNone p1) = 0 then (0 : Int32) else (1 : Int32)) (0 : Int32)), (my T), (mm T), (md T), (mt T), (T.2.2.2.2.2))) := hD
    refine lv_if_eq (tgt := 29) hx hb dX2_takeTime_24 (by decide) (fun c_2 => ?_) (fun c_2 => ?_)
    · have c_2 := rf_p c_2
      refine lv_aload_n hx hb dX2_takeTime_29 rfl (lv_at hl 0 rfl) ?_
      refine lv_iload_n hx hb dX2_takeTime_30 rfl (lv_at hl 1 rfl) ?_
      refine lv_aload_n hx hb dX2_takeTime_31 rfl (lv_at hl 0 rfl) ?_
      refine va_get (D := gD G) (cl := vwCl) (tys := gT G) (ci := 4) (v := .ref (b 1)) (C := RX2) (T := TX2) (N := 12) hx hb hw inB_X2 hown hE.K hP 0 rfl rfl 1 (by decide) (hw _ bw1164) (fun _ h9 => h9) rfl dX2_takeTime_32 ?_
      refine lv_iload_n hx hb dX2_takeTime_35 rfl (lv_at hl 1 rfl) ?_
      refine va_iald (tys := gT G) hx hb hE.K hP 1 0 rfl rfl (none_in c_1) dX2_takeTime_36 ?_
      refine lv_aload_n hx hb dX2_takeTime_37 rfl (lv_at hl 0 rfl) ?_
      refine va_get (D := gD G) (cl := vwCl) (tys := gT G) (ci := 4) (v := .ref (b 2)) (C := RX2) (T := TX2) (N := 12) hx hb hw inB_X2 hown hE.K hP 0 rfl rfl 2 (by decide) (hw _ bw1165) (fun _ h9 => h9) rfl dX2_takeTime_38 ?_
      refine lv_iload_n hx hb dX2_takeTime_41 rfl (lv_at hl 1 rfl) ?_
      refine va_iald (tys := gT G) hx hb hE.K hP 2 0 rfl rfl (none_in c_1) dX2_takeTime_42 ?_
      refine lv_aload_n hx hb dX2_takeTime_43 rfl (lv_at hl 0 rfl) ?_
      refine va_get (D := gD G) (cl := vwCl) (tys := gT G) (ci := 4) (v := .ref (b 3)) (C := RX2) (T := TX2) (N := 12) hx hb hw inB_X2 hown hE.K hP 0 rfl rfl 3 (by decide) (hw _ bw1166) (fun _ h9 => h9) rfl dX2_takeTime_44 ?_
      refine lv_iload_n hx hb dX2_takeTime_47 rfl (lv_at hl 1 rfl) ?_
      refine va_iald (tys := gT G) hx hb hE.K hP 3 0 rfl rfl (none_in c_1) dX2_takeTime_48 ?_
      refine lv_aload_n hx hb dX2_takeTime_49 rfl (lv_at hl 0 rfl) ?_
      refine va_get (D := gD G) (cl := vwCl) (tys := gT G) (ci := 4) (v := .ref (b 4)) (C := RX2) (T := TX2) (N := 12) hx hb hw inB_X2 hown hE.K hP 0 rfl rfl 4 (by decide) (hw _ bw1167) (fun _ h9 => h9) rfl dX2_takeTime_50 ?_
      refine lv_iload_n hx hb dX2_takeTime_53 rfl (lv_at hl 2 rfl) ?_
      refine va_lald (tys := gT G) hx hb hE.K hP 4 1 rfl rfl (none_in (dia0 (frf_a c_2))) dX2_takeTime_54 ?_
      refine wcVi (as := [.int p0, .int ((my T) p0.toNatClampNeg), .int ((mm T) p0.toNatClampNeg), .int ((md T) p0.toNatClampNeg), .long ((mt T) p1.toNatClampNeg)]) (rest := []) (cl := RX2) C (c_X2_become l G b ((fth (if (fX2_isNone p1) = 0 then (0 : Int32) else (1 : Int32)) (0 : Int32)), (my T), (mm T), (md T), (mt T), (T.2.2.2.2.2)) p0 ((my T) p0.toNatClampNeg) ((mm T) p0.toNatClampNeg) ((md T) p0.toNatClampNeg) ((mt T) p1.toNatClampNeg) (none_in c_1) (MO.same hT rfl) (MO.at hT (none_in c_1))) F_X2_become rfl bw1239 bw1241 bw36 (hE.S hS hAB) hP hD hS hA hAB (rv4 hE.K hP (q0 := 0) rfl) hl.1 dX2_takeTime_55 ⟨Nat.le_of_ble_eq_true rfl, Nat.le_of_ble_eq_true rfl⟩ rfl (Nat.le_of_ble_eq_true rfl) ⟨Nat.le_of_ble_eq_true rfl, Nat.le_of_ble_eq_true rfl⟩ (fun H locs hP hD hS => ?_)
      exact we_i (wf := wM G b) hx hb hr hk hP hD hS (Nat.le_of_ble_eq_true rfl) (Nat.le_of_ble_eq_true rfl) dX2_takeTime_58 (Eq.trans (if_pos c_1) (if_pos c_2))
    · have c_2 := rf_n c_2
      refine lv_iconst (v := (0 : Int32)) hx hb dX2_takeTime_27 qi_0 ?_
      exact we_i (wf := wM G b) hx hb hr hk hP hD hS (Nat.le_of_ble_eq_true rfl) (Nat.le_of_ble_eq_true rfl) dX2_takeTime_28 (Eq.trans (if_pos c_1) (if_neg c_2))

set_option maxRecDepth 100000 in
set_option maxHeartbeats 4000000 in
theorem c_X2_withYear (l : Launch) (G : GT) (b : Nat → Nat) (T : SM) (p0 : Int32) (p1 : Int32) (hT : MO T) : WR l G yX2_withYear cX2_withYear 3 (some .int) 12 0 0 [.ref (b 0), .int p0, .int p1] (wM G b T) (wM G b (gX2_withYear T p0 p1).2) (some (.int (gX2_withYear T p0 p1).1)) := by
  refine WR.ofW (own := RX2) rfl (plainFor_of_name pnN_RX2) (Nat.le_of_ble_eq_true rfl) ?_
  intro p e s m below meth c A C hr hk hnm hE hP hD hA hAB hS ls hl
  have hx := C.1
  have hb := C.2.1
  have hown := C.2.2.2.1
  have hw := C.2.2.2.2
  have hl : lv_has ls 3 [(0, .ref (b 0)), (1, .int p0), (2, .int p1)] := hl
  refine lv_aload_n hx hb dX2_withYear_0 rfl (lv_at hl 0 rfl) ?_
  refine lv_iload_n hx hb dX2_withYear_1 rfl (lv_at hl 1 rfl) ?_
  refine rcSi (as := [.int p0]) (rest := [.ref (b 0)]) C (c_X2_isNone l G p0) F_X2_isNone rfl bw1216 bw1217 (hE.S hS hAB) vpn hl.1 dX2_withYear_2 ⟨Nat.le_of_ble_eq_true rfl, Nat.le_of_ble_eq_true rfl⟩ rfl (Nat.le_of_ble_eq_true rfl) ⟨Nat.le_of_ble_eq_true rfl, Nat.le_of_ble_eq_true rfl⟩ ?_
  refine lv_sipush (v := (-9999 : Int32)) hx hb dX2_withYear_5 qs_m9999 ?_
  refine lv_sipush (v := (9999 : Int32)) hx hb dX2_withYear_8 qs_9999 ?_
  refine lv_iload_n hx hb dX2_withYear_11 rfl (lv_at hl 2 rfl) ?_
  refine rcSi (as := [.int (-9999 : Int32), .int (9999 : Int32), .int p1]) (rest := [.int (fX2_isNone p0), .ref (b 0)]) C (c_X2_isFrom l G (-9999 : Int32) (9999 : Int32) p1) F_X2_isFrom rfl bw1208 bw1209 (hE.S hS hAB) vpn hl.1 dX2_withYear_12 ⟨Nat.le_of_ble_eq_true rfl, Nat.le_of_ble_eq_true rfl⟩ rfl (Nat.le_of_ble_eq_true rfl) ⟨Nat.le_of_ble_eq_true rfl, Nat.le_of_ble_eq_true rfl⟩ ?_
  refine k_dia (b := (fX2_isFrom (-9999 : Int32) (9999 : Int32) p1) = 0) (x := (1 : Int32)) (y := (0 : Int32)) (Wg := fun z9 => W _ _ _ _ _ _ _ _ _ _ _ _ _ _ _ (F0 m 23 ls (.int z9 :: _))) ?_ (fun t9 f9 => lv_if_ne (tgt := 22) hx hb dX2_withYear_15 (by decide) (fun c_x => lv_iconst (v := (0 : Int32)) hx hb dX2_withYear_22 qi_0 (f9 c_x)) (fun c_x => lv_iconst (v := (1 : Int32)) hx hb dX2_withYear_18 qi_1 (lv_goto (tgt := 23) hx hb dX2_withYear_19 (by decide) (t9 c_x))))
  refine wcVi (as := [.int (fX2_isNone p0), .int (if (fX2_isFrom (-9999 : Int32) (9999 : Int32) p1) = 0 then (1 : Int32) else (0 : Int32))]) (rest := []) (cl := RX2) C (c_X2_refuses l G b T (fX2_isNone p0) (if (fX2_isFrom (-9999 : Int32) (9999 : Int32) p1) = 0 then (1 : Int32) else (0 : Int32))) F_X2_refuses rfl bw1219 bw1221 bw33 (hE.S hS hAB) hP hD hS hA hAB (rv4 hE.K hP (q0 := 0) rfl) hl.1 dX2_withYear_23 ⟨Nat.le_of_ble_eq_true rfl, Nat.le_of_ble_eq_true rfl⟩ rfl (Nat.le_of_ble_eq_true rfl) ⟨Nat.le_of_ble_eq_true rfl, Nat.le_of_ble_eq_true rfl⟩ (fun H locs hP hD hS => ?_)
  have hP : va_P (gD G) vwCl (wM G b ((fth (fX2_isNone p0) (if (fX2_isFrom (-9999 : Int32) (9999 : Int32) p1) = 0 then (1 : Int32) else (0 : Int32))), (my T), (mm T), (md T), (mt T), (T.2.2.2.2.2))) H := hP
  have hD : va_D A (wM G b ((fth (fX2_isNone p0) (if (fX2_isFrom (-9999 : Int32) (9999 : Int32) p1) = 0 then (1 : Int32) else (0 : Int32))), (my T), (mm T), (md T), (mt T), (T.2.2.2.2.2))) := hD
  refine lv_if_eq (tgt := 31) hx hb dX2_withYear_26 (by decide) (fun c_1 => ?_) (fun c_1 => ?_)
  · have c_1 := rf_p c_1
    refine lv_aload_n hx hb dX2_withYear_31 rfl (lv_at hl 0 rfl) ?_
    refine lv_iload_n hx hb dX2_withYear_32 rfl (lv_at hl 1 rfl) ?_
    refine lv_iload_n hx hb dX2_withYear_33 rfl (lv_at hl 2 rfl) ?_
    refine lv_i2l (v := (p1.toInt64)) hx hb dX2_withYear_34 (by first | rfl | decide) ?_
    refine lv_aload_n hx hb dX2_withYear_35 rfl (lv_at hl 0 rfl) ?_
    refine va_get (D := gD G) (cl := vwCl) (tys := gT G) (ci := 4) (v := .ref (b 2)) (C := RX2) (T := TX2) (N := 12) hx hb hw inB_X2 hown hE.K hP 0 rfl rfl 2 (by decide) (hw _ bw1165) (fun _ h9 => h9) rfl dX2_withYear_36 ?_
    refine lv_iload_n hx hb dX2_withYear_39 rfl (lv_at hl 1 rfl) ?_
    refine va_iald (tys := gT G) hx hb hE.K hP 2 0 rfl rfl (none_in (frf_a c_1)) dX2_withYear_40 ?_
    refine wcVi (as := [.int p0, .long (p1.toInt64), .int ((mm T) p0.toNatClampNeg)]) (rest := []) (cl := RX2) C (c_X2_becomeMonth l G b ((fth (fX2_isNone p0) (if (fX2_isFrom (-9999 : Int32) (9999 : Int32) p1) = 0 then (1 : Int32) else (0 : Int32))), (my T), (mm T), (md T), (mt T), (T.2.2.2.2.2)) p0 (p1.toInt64) ((mm T) p0.toNatClampNeg) (none_in (frf_a c_1)) (MO.same hT rfl) (MO.at hT (none_in (frf_a c_1)))) F_X2_becomeMonth rfl bw1308 bw1310 bw40 (hE.S hS hAB) hP hD hS hA hAB (rv4 hE.K hP (q0 := 0) rfl) hl.1 dX2_withYear_41 ⟨Nat.le_of_ble_eq_true rfl, Nat.le_of_ble_eq_true rfl⟩ rfl (Nat.le_of_ble_eq_true rfl) ⟨Nat.le_of_ble_eq_true rfl, Nat.le_of_ble_eq_true rfl⟩ (fun H locs hP hD hS => ?_)
    exact we_i (wf := wM G b) hx hb hr hk hP hD hS (Nat.le_of_ble_eq_true rfl) (Nat.le_of_ble_eq_true rfl) dX2_withYear_44 (if_pos c_1)
  · have c_1 := rf_n c_1
    refine lv_iconst (v := (0 : Int32)) hx hb dX2_withYear_29 qi_0 ?_
    exact we_i (wf := wM G b) hx hb hr hk hP hD hS (Nat.le_of_ble_eq_true rfl) (Nat.le_of_ble_eq_true rfl) dX2_withYear_30 (if_neg c_1)

set_option maxRecDepth 100000 in
set_option maxHeartbeats 4000000 in
theorem c_X2_withMonth (l : Launch) (G : GT) (b : Nat → Nat) (T : SM) (p0 : Int32) (p1 : Int32) (hT : MO T) : WR l G yX2_withMonth cX2_withMonth 3 (some .int) 12 0 0 [.ref (b 0), .int p0, .int p1] (wM G b T) (wM G b (gX2_withMonth T p0 p1).2) (some (.int (gX2_withMonth T p0 p1).1)) := by
  refine WR.ofW (own := RX2) rfl (plainFor_of_name pnN_RX2) (Nat.le_of_ble_eq_true rfl) ?_
  intro p e s m below meth c A C hr hk hnm hE hP hD hA hAB hS ls hl
  have hx := C.1
  have hb := C.2.1
  have hown := C.2.2.2.1
  have hw := C.2.2.2.2
  have hl : lv_has ls 3 [(0, .ref (b 0)), (1, .int p0), (2, .int p1)] := hl
  refine lv_aload_n hx hb dX2_withMonth_0 rfl (lv_at hl 0 rfl) ?_
  refine lv_iload_n hx hb dX2_withMonth_1 rfl (lv_at hl 1 rfl) ?_
  refine rcSi (as := [.int p0]) (rest := [.ref (b 0)]) C (c_X2_isNone l G p0) F_X2_isNone rfl bw1216 bw1217 (hE.S hS hAB) vpn hl.1 dX2_withMonth_2 ⟨Nat.le_of_ble_eq_true rfl, Nat.le_of_ble_eq_true rfl⟩ rfl (Nat.le_of_ble_eq_true rfl) ⟨Nat.le_of_ble_eq_true rfl, Nat.le_of_ble_eq_true rfl⟩ ?_
  refine lv_iconst (v := (1 : Int32)) hx hb dX2_withMonth_5 qi_1 ?_
  refine lv_bipush (v := (12 : Int32)) hx hb dX2_withMonth_6 qb_12 ?_
  refine lv_iload_n hx hb dX2_withMonth_8 rfl (lv_at hl 2 rfl) ?_
  refine rcSi (as := [.int (1 : Int32), .int (12 : Int32), .int p1]) (rest := [.int (fX2_isNone p0), .ref (b 0)]) C (c_X2_isFrom l G (1 : Int32) (12 : Int32) p1) F_X2_isFrom rfl bw1208 bw1209 (hE.S hS hAB) vpn hl.1 dX2_withMonth_9 ⟨Nat.le_of_ble_eq_true rfl, Nat.le_of_ble_eq_true rfl⟩ rfl (Nat.le_of_ble_eq_true rfl) ⟨Nat.le_of_ble_eq_true rfl, Nat.le_of_ble_eq_true rfl⟩ ?_
  refine k_dia (b := (fX2_isFrom (1 : Int32) (12 : Int32) p1) = 0) (x := (1 : Int32)) (y := (0 : Int32)) (Wg := fun z9 => W _ _ _ _ _ _ _ _ _ _ _ _ _ _ _ (F0 m 20 ls (.int z9 :: _))) ?_ (fun t9 f9 => lv_if_ne (tgt := 19) hx hb dX2_withMonth_12 (by decide) (fun c_x => lv_iconst (v := (0 : Int32)) hx hb dX2_withMonth_19 qi_0 (f9 c_x)) (fun c_x => lv_iconst (v := (1 : Int32)) hx hb dX2_withMonth_15 qi_1 (lv_goto (tgt := 20) hx hb dX2_withMonth_16 (by decide) (t9 c_x))))
  refine wcVi (as := [.int (fX2_isNone p0), .int (if (fX2_isFrom (1 : Int32) (12 : Int32) p1) = 0 then (1 : Int32) else (0 : Int32))]) (rest := []) (cl := RX2) C (c_X2_refuses l G b T (fX2_isNone p0) (if (fX2_isFrom (1 : Int32) (12 : Int32) p1) = 0 then (1 : Int32) else (0 : Int32))) F_X2_refuses rfl bw1219 bw1221 bw33 (hE.S hS hAB) hP hD hS hA hAB (rv4 hE.K hP (q0 := 0) rfl) hl.1 dX2_withMonth_20 ⟨Nat.le_of_ble_eq_true rfl, Nat.le_of_ble_eq_true rfl⟩ rfl (Nat.le_of_ble_eq_true rfl) ⟨Nat.le_of_ble_eq_true rfl, Nat.le_of_ble_eq_true rfl⟩ (fun H locs hP hD hS => ?_)
  have hP : va_P (gD G) vwCl (wM G b ((fth (fX2_isNone p0) (if (fX2_isFrom (1 : Int32) (12 : Int32) p1) = 0 then (1 : Int32) else (0 : Int32))), (my T), (mm T), (md T), (mt T), (T.2.2.2.2.2))) H := hP
  have hD : va_D A (wM G b ((fth (fX2_isNone p0) (if (fX2_isFrom (1 : Int32) (12 : Int32) p1) = 0 then (1 : Int32) else (0 : Int32))), (my T), (mm T), (md T), (mt T), (T.2.2.2.2.2))) := hD
  refine lv_if_eq (tgt := 28) hx hb dX2_withMonth_23 (by decide) (fun c_1 => ?_) (fun c_1 => ?_)
  · have c_1 := rf_p c_1
    refine lv_aload_n hx hb dX2_withMonth_28 rfl (lv_at hl 0 rfl) ?_
    refine lv_iload_n hx hb dX2_withMonth_29 rfl (lv_at hl 1 rfl) ?_
    refine lv_aload_n hx hb dX2_withMonth_30 rfl (lv_at hl 0 rfl) ?_
    refine va_get (D := gD G) (cl := vwCl) (tys := gT G) (ci := 4) (v := .ref (b 1)) (C := RX2) (T := TX2) (N := 12) hx hb hw inB_X2 hown hE.K hP 0 rfl rfl 1 (by decide) (hw _ bw1164) (fun _ h9 => h9) rfl dX2_withMonth_31 ?_
    refine lv_iload_n hx hb dX2_withMonth_34 rfl (lv_at hl 1 rfl) ?_
    refine va_iald (tys := gT G) hx hb hE.K hP 1 0 rfl rfl (none_in (frf_a c_1)) dX2_withMonth_35 ?_
    refine lv_i2l (v := (((my T) p0.toNatClampNeg).toInt64)) hx hb dX2_withMonth_36 (by first | rfl | decide) ?_
    refine lv_iload_n hx hb dX2_withMonth_37 rfl (lv_at hl 2 rfl) ?_
    refine wcVi (as := [.int p0, .long (((my T) p0.toNatClampNeg).toInt64), .int p1]) (rest := []) (cl := RX2) C (c_X2_becomeMonth l G b ((fth (fX2_isNone p0) (if (fX2_isFrom (1 : Int32) (12 : Int32) p1) = 0 then (1 : Int32) else (0 : Int32))), (my T), (mm T), (md T), (mt T), (T.2.2.2.2.2)) p0 (((my T) p0.toNatClampNeg).toInt64) p1 (none_in (frf_a c_1)) (MO.same hT rfl) (from_le (dia1 (frf_b c_1)))) F_X2_becomeMonth rfl bw1308 bw1310 bw40 (hE.S hS hAB) hP hD hS hA hAB (rv4 hE.K hP (q0 := 0) rfl) hl.1 dX2_withMonth_38 ⟨Nat.le_of_ble_eq_true rfl, Nat.le_of_ble_eq_true rfl⟩ rfl (Nat.le_of_ble_eq_true rfl) ⟨Nat.le_of_ble_eq_true rfl, Nat.le_of_ble_eq_true rfl⟩ (fun H locs hP hD hS => ?_)
    exact we_i (wf := wM G b) hx hb hr hk hP hD hS (Nat.le_of_ble_eq_true rfl) (Nat.le_of_ble_eq_true rfl) dX2_withMonth_41 (if_pos c_1)
  · have c_1 := rf_n c_1
    refine lv_iconst (v := (0 : Int32)) hx hb dX2_withMonth_26 qi_0 ?_
    exact we_i (wf := wM G b) hx hb hr hk hP hD hS (Nat.le_of_ble_eq_true rfl) (Nat.le_of_ble_eq_true rfl) dX2_withMonth_27 (if_neg c_1)

set_option maxRecDepth 100000 in
set_option maxHeartbeats 4000000 in
theorem c_X2_withDayOfMonth (l : Launch) (G : GT) (b : Nat → Nat) (T : SM) (p0 : Int32) (p1 : Int32) (hT : MO T) : WR l G yX2_withDayOfMonth cX2_withDayOfMonth 3 (some .int) 12 0 0 [.ref (b 0), .int p0, .int p1] (wM G b T) (wM G b (gX2_withDayOfMonth T p0 p1).2) (some (.int (gX2_withDayOfMonth T p0 p1).1)) := by
  refine WR.ofW (own := RX2) rfl (plainFor_of_name pnN_RX2) (Nat.le_of_ble_eq_true rfl) ?_
  intro p e s m below meth c A C hr hk hnm hE hP hD hA hAB hS ls hl
  have hx := C.1
  have hb := C.2.1
  have hown := C.2.2.2.1
  have hw := C.2.2.2.2
  have hl : lv_has ls 3 [(0, .ref (b 0)), (1, .int p0), (2, .int p1)] := hl
  refine lv_aload_n hx hb dX2_withDayOfMonth_0 rfl (lv_at hl 0 rfl) ?_
  refine lv_iload_n hx hb dX2_withDayOfMonth_1 rfl (lv_at hl 1 rfl) ?_
  refine rcSi (as := [.int p0]) (rest := [.ref (b 0)]) C (c_X2_isNone l G p0) F_X2_isNone rfl bw1216 bw1217 (hE.S hS hAB) vpn hl.1 dX2_withDayOfMonth_2 ⟨Nat.le_of_ble_eq_true rfl, Nat.le_of_ble_eq_true rfl⟩ rfl (Nat.le_of_ble_eq_true rfl) ⟨Nat.le_of_ble_eq_true rfl, Nat.le_of_ble_eq_true rfl⟩ ?_
  refine lv_iconst (v := (1 : Int32)) hx hb dX2_withDayOfMonth_5 qi_1 ?_
  refine lv_bipush (v := (31 : Int32)) hx hb dX2_withDayOfMonth_6 qb_31 ?_
  refine lv_iload_n hx hb dX2_withDayOfMonth_8 rfl (lv_at hl 2 rfl) ?_
  refine rcSi (as := [.int (1 : Int32), .int (31 : Int32), .int p1]) (rest := [.int (fX2_isNone p0), .ref (b 0)]) C (c_X2_isFrom l G (1 : Int32) (31 : Int32) p1) F_X2_isFrom rfl bw1208 bw1209 (hE.S hS hAB) vpn hl.1 dX2_withDayOfMonth_9 ⟨Nat.le_of_ble_eq_true rfl, Nat.le_of_ble_eq_true rfl⟩ rfl (Nat.le_of_ble_eq_true rfl) ⟨Nat.le_of_ble_eq_true rfl, Nat.le_of_ble_eq_true rfl⟩ ?_
  refine k_dia (b := (fX2_isFrom (1 : Int32) (31 : Int32) p1) = 0) (x := (1 : Int32)) (y := (0 : Int32)) (Wg := fun z9 => W _ _ _ _ _ _ _ _ _ _ _ _ _ _ _ (F0 m 20 ls (.int z9 :: _))) ?_ (fun t9 f9 => lv_if_ne (tgt := 19) hx hb dX2_withDayOfMonth_12 (by decide) (fun c_x => lv_iconst (v := (0 : Int32)) hx hb dX2_withDayOfMonth_19 qi_0 (f9 c_x)) (fun c_x => lv_iconst (v := (1 : Int32)) hx hb dX2_withDayOfMonth_15 qi_1 (lv_goto (tgt := 20) hx hb dX2_withDayOfMonth_16 (by decide) (t9 c_x))))
  refine wcVi (as := [.int (fX2_isNone p0), .int (if (fX2_isFrom (1 : Int32) (31 : Int32) p1) = 0 then (1 : Int32) else (0 : Int32))]) (rest := []) (cl := RX2) C (c_X2_refuses l G b T (fX2_isNone p0) (if (fX2_isFrom (1 : Int32) (31 : Int32) p1) = 0 then (1 : Int32) else (0 : Int32))) F_X2_refuses rfl bw1219 bw1221 bw33 (hE.S hS hAB) hP hD hS hA hAB (rv4 hE.K hP (q0 := 0) rfl) hl.1 dX2_withDayOfMonth_20 ⟨Nat.le_of_ble_eq_true rfl, Nat.le_of_ble_eq_true rfl⟩ rfl (Nat.le_of_ble_eq_true rfl) ⟨Nat.le_of_ble_eq_true rfl, Nat.le_of_ble_eq_true rfl⟩ (fun H locs hP hD hS => ?_)
  have hP : va_P (gD G) vwCl (wM G b ((fth (fX2_isNone p0) (if (fX2_isFrom (1 : Int32) (31 : Int32) p1) = 0 then (1 : Int32) else (0 : Int32))), (my T), (mm T), (md T), (mt T), (T.2.2.2.2.2))) H := hP
  have hD : va_D A (wM G b ((fth (fX2_isNone p0) (if (fX2_isFrom (1 : Int32) (31 : Int32) p1) = 0 then (1 : Int32) else (0 : Int32))), (my T), (mm T), (md T), (mt T), (T.2.2.2.2.2))) := hD
  refine lv_if_eq (tgt := 28) hx hb dX2_withDayOfMonth_23 (by decide) (fun c_1 => ?_) (fun c_1 => ?_)
  · have c_1 := rf_p c_1
    refine lv_iload_n hx hb dX2_withDayOfMonth_28 rfl (lv_at hl 2 rfl) ?_
    refine lv_aload_n hx hb dX2_withDayOfMonth_29 rfl (lv_at hl 0 rfl) ?_
    refine va_get (D := gD G) (cl := vwCl) (tys := gT G) (ci := 4) (v := .ref (b 1)) (C := RX2) (T := TX2) (N := 12) hx hb hw inB_X2 hown hE.K hP 0 rfl rfl 1 (by decide) (hw _ bw1164) (fun _ h9 => h9) rfl dX2_withDayOfMonth_30 ?_
    refine lv_iload_n hx hb dX2_withDayOfMonth_33 rfl (lv_at hl 1 rfl) ?_
    refine va_iald (tys := gT G) hx hb hE.K hP 1 0 rfl rfl (none_in (frf_a c_1)) dX2_withDayOfMonth_34 ?_
    refine lv_aload_n hx hb dX2_withDayOfMonth_35 rfl (lv_at hl 0 rfl) ?_
    refine va_get (D := gD G) (cl := vwCl) (tys := gT G) (ci := 4) (v := .ref (b 2)) (C := RX2) (T := TX2) (N := 12) hx hb hw inB_X2 hown hE.K hP 0 rfl rfl 2 (by decide) (hw _ bw1165) (fun _ h9 => h9) rfl dX2_withDayOfMonth_36 ?_
    refine lv_iload_n hx hb dX2_withDayOfMonth_39 rfl (lv_at hl 1 rfl) ?_
    refine va_iald (tys := gT G) hx hb hE.K hP 2 0 rfl rfl (none_in (frf_a c_1)) dX2_withDayOfMonth_40 ?_
    refine rcSi (as := [.int ((my T) p0.toNatClampNeg), .int ((mm T) p0.toNatClampNeg)]) (rest := [.int p1]) C (c_X2_daysOf l G ((my T) p0.toNatClampNeg) ((mm T) p0.toNatClampNeg)) F_X2_daysOf rfl bw1223 bw1224 (hE.S hS hAB) vpn hl.1 dX2_withDayOfMonth_41 ⟨Nat.le_of_ble_eq_true rfl, Nat.le_of_ble_eq_true rfl⟩ rfl (Nat.le_of_ble_eq_true rfl) ⟨Nat.le_of_ble_eq_true rfl, Nat.le_of_ble_eq_true rfl⟩ ?_
    refine lv_icmp_le (tgt := 52) hx hb dX2_withDayOfMonth_44 (by decide) (fun c_2 => ?_) (fun c_2 => ?_)
    · refine lv_aload_n hx hb dX2_withDayOfMonth_52 rfl (lv_at hl 0 rfl) ?_
      refine lv_iload_n hx hb dX2_withDayOfMonth_53 rfl (lv_at hl 1 rfl) ?_
      refine lv_aload_n hx hb dX2_withDayOfMonth_54 rfl (lv_at hl 0 rfl) ?_
      refine va_get (D := gD G) (cl := vwCl) (tys := gT G) (ci := 4) (v := .ref (b 1)) (C := RX2) (T := TX2) (N := 12) hx hb hw inB_X2 hown hE.K hP 0 rfl rfl 1 (by decide) (hw _ bw1164) (fun _ h9 => h9) rfl dX2_withDayOfMonth_55 ?_
      refine lv_iload_n hx hb dX2_withDayOfMonth_58 rfl (lv_at hl 1 rfl) ?_
      refine va_iald (tys := gT G) hx hb hE.K hP 1 0 rfl rfl (none_in (frf_a c_1)) dX2_withDayOfMonth_59 ?_
      refine lv_aload_n hx hb dX2_withDayOfMonth_60 rfl (lv_at hl 0 rfl) ?_
      refine va_get (D := gD G) (cl := vwCl) (tys := gT G) (ci := 4) (v := .ref (b 2)) (C := RX2) (T := TX2) (N := 12) hx hb hw inB_X2 hown hE.K hP 0 rfl rfl 2 (by decide) (hw _ bw1165) (fun _ h9 => h9) rfl dX2_withDayOfMonth_61 ?_
      refine lv_iload_n hx hb dX2_withDayOfMonth_64 rfl (lv_at hl 1 rfl) ?_
      refine va_iald (tys := gT G) hx hb hE.K hP 2 0 rfl rfl (none_in (frf_a c_1)) dX2_withDayOfMonth_65 ?_
      refine lv_iload_n hx hb dX2_withDayOfMonth_66 rfl (lv_at hl 2 rfl) ?_
      refine lv_aload_n hx hb dX2_withDayOfMonth_67 rfl (lv_at hl 0 rfl) ?_
      refine va_get (D := gD G) (cl := vwCl) (tys := gT G) (ci := 4) (v := .ref (b 4)) (C := RX2) (T := TX2) (N := 12) hx hb hw inB_X2 hown hE.K hP 0 rfl rfl 4 (by decide) (hw _ bw1167) (fun _ h9 => h9) rfl dX2_withDayOfMonth_68 ?_
      refine lv_iload_n hx hb dX2_withDayOfMonth_71 rfl (lv_at hl 1 rfl) ?_
      refine va_lald (tys := gT G) hx hb hE.K hP 4 1 rfl rfl (none_in (frf_a c_1)) dX2_withDayOfMonth_72 ?_
      refine wcVi (as := [.int p0, .int ((my T) p0.toNatClampNeg), .int ((mm T) p0.toNatClampNeg), .int p1, .long ((mt T) p0.toNatClampNeg)]) (rest := []) (cl := RX2) C (c_X2_become l G b ((fth (fX2_isNone p0) (if (fX2_isFrom (1 : Int32) (31 : Int32) p1) = 0 then (1 : Int32) else (0 : Int32))), (my T), (mm T), (md T), (mt T), (T.2.2.2.2.2)) p0 ((my T) p0.toNatClampNeg) ((mm T) p0.toNatClampNeg) p1 ((mt T) p0.toNatClampNeg) (none_in (frf_a c_1)) (MO.same hT rfl) (MO.at hT (none_in (frf_a c_1)))) F_X2_become rfl bw1239 bw1241 bw36 (hE.S hS hAB) hP hD hS hA hAB (rv4 hE.K hP (q0 := 0) rfl) hl.1 dX2_withDayOfMonth_73 ⟨Nat.le_of_ble_eq_true rfl, Nat.le_of_ble_eq_true rfl⟩ rfl (Nat.le_of_ble_eq_true rfl) ⟨Nat.le_of_ble_eq_true rfl, Nat.le_of_ble_eq_true rfl⟩ (fun H locs hP hD hS => ?_)
      exact we_i (wf := wM G b) hx hb hr hk hP hD hS (Nat.le_of_ble_eq_true rfl) (Nat.le_of_ble_eq_true rfl) dX2_withDayOfMonth_76 (Eq.trans (if_pos c_1) (if_pos c_2))
    · refine lv_aload_n hx hb dX2_withDayOfMonth_47 rfl (lv_at hl 0 rfl) ?_
      refine wcVi (as := []) (rest := []) (cl := RX2) C (c_X2_refuse l G b ((fth (fX2_isNone p0) (if (fX2_isFrom (1 : Int32) (31 : Int32) p1) = 0 then (1 : Int32) else (0 : Int32))), (my T), (mm T), (md T), (mt T), (T.2.2.2.2.2))) F_X2_refuse rfl bw1229 bw1231 bw34 (hE.S hS hAB) hP hD hS hA hAB (rv4 hE.K hP (q0 := 0) rfl) hl.1 dX2_withDayOfMonth_48 ⟨Nat.le_of_ble_eq_true rfl, Nat.le_of_ble_eq_true rfl⟩ rfl (Nat.le_of_ble_eq_true rfl) ⟨Nat.le_of_ble_eq_true rfl, Nat.le_of_ble_eq_true rfl⟩ (fun H locs hP hD hS => ?_)
      exact we_i (wf := wM G b) hx hb hr hk hP hD hS (Nat.le_of_ble_eq_true rfl) (Nat.le_of_ble_eq_true rfl) dX2_withDayOfMonth_51 (Eq.trans (if_pos c_1) (if_neg c_2))
  · have c_1 := rf_n c_1
    refine lv_iconst (v := (0 : Int32)) hx hb dX2_withDayOfMonth_26 qi_0 ?_
    exact we_i (wf := wM G b) hx hb hr hk hP hD hS (Nat.le_of_ble_eq_true rfl) (Nat.le_of_ble_eq_true rfl) dX2_withDayOfMonth_27 (if_neg c_1)

set_option maxRecDepth 100000 in
set_option maxHeartbeats 4000000 in
theorem c_X2_withDayOfYear (l : Launch) (G : GT) (b : Nat → Nat) (T : SM) (p0 : Int32) (p1 : Int32) (hT : MO T) : WR l G yX2_withDayOfYear cX2_withDayOfYear 3 (some .int) 12 1 3 [.ref (b 0), .int p0, .int p1] (wM G b T) (wM G b (gX2_withDayOfYear T p0 p1).2) (some (.int (gX2_withDayOfYear T p0 p1).1)) := by
  refine WR.ofW (own := RX2) rfl (plainFor_of_name pnN_RX2) (Nat.le_of_ble_eq_true rfl) ?_
  intro p e s m below meth c A C hr hk hnm hE hP hD hA hAB hS ls hl
  have hx := C.1
  have hb := C.2.1
  have hown := C.2.2.2.1
  have hw := C.2.2.2.2
  have hl : lv_has ls 3 [(0, .ref (b 0)), (1, .int p0), (2, .int p1)] := hl
  refine lv_aload_n hx hb dX2_withDayOfYear_0 rfl (lv_at hl 0 rfl) ?_
  refine lv_iload_n hx hb dX2_withDayOfYear_1 rfl (lv_at hl 1 rfl) ?_
  refine rcSi (as := [.int p0]) (rest := [.ref (b 0)]) C (c_X2_isNone l G p0) F_X2_isNone rfl bw1216 bw1217 (hE.S hS hAB) vpn hl.1 dX2_withDayOfYear_2 ⟨Nat.le_of_ble_eq_true rfl, Nat.le_of_ble_eq_true rfl⟩ rfl (Nat.le_of_ble_eq_true rfl) ⟨Nat.le_of_ble_eq_true rfl, Nat.le_of_ble_eq_true rfl⟩ ?_
  refine lv_iconst (v := (1 : Int32)) hx hb dX2_withDayOfYear_5 qi_1 ?_
  refine lv_sipush (v := (366 : Int32)) hx hb dX2_withDayOfYear_6 qs_366 ?_
  refine lv_iload_n hx hb dX2_withDayOfYear_9 rfl (lv_at hl 2 rfl) ?_
  refine rcSi (as := [.int (1 : Int32), .int (366 : Int32), .int p1]) (rest := [.int (fX2_isNone p0), .ref (b 0)]) C (c_X2_isFrom l G (1 : Int32) (366 : Int32) p1) F_X2_isFrom rfl bw1208 bw1209 (hE.S hS hAB) vpn hl.1 dX2_withDayOfYear_10 ⟨Nat.le_of_ble_eq_true rfl, Nat.le_of_ble_eq_true rfl⟩ rfl (Nat.le_of_ble_eq_true rfl) ⟨Nat.le_of_ble_eq_true rfl, Nat.le_of_ble_eq_true rfl⟩ ?_
  refine k_dia (b := (fX2_isFrom (1 : Int32) (366 : Int32) p1) = 0) (x := (1 : Int32)) (y := (0 : Int32)) (Wg := fun z9 => W _ _ _ _ _ _ _ _ _ _ _ _ _ _ _ (F0 m 21 ls (.int z9 :: _))) ?_ (fun t9 f9 => lv_if_ne (tgt := 20) hx hb dX2_withDayOfYear_13 (by decide) (fun c_x => lv_iconst (v := (0 : Int32)) hx hb dX2_withDayOfYear_20 qi_0 (f9 c_x)) (fun c_x => lv_iconst (v := (1 : Int32)) hx hb dX2_withDayOfYear_16 qi_1 (lv_goto (tgt := 21) hx hb dX2_withDayOfYear_17 (by decide) (t9 c_x))))
  refine wcVi (as := [.int (fX2_isNone p0), .int (if (fX2_isFrom (1 : Int32) (366 : Int32) p1) = 0 then (1 : Int32) else (0 : Int32))]) (rest := []) (cl := RX2) C (c_X2_refuses l G b T (fX2_isNone p0) (if (fX2_isFrom (1 : Int32) (366 : Int32) p1) = 0 then (1 : Int32) else (0 : Int32))) F_X2_refuses rfl bw1219 bw1221 bw33 (hE.S hS hAB) hP hD hS hA hAB (rv4 hE.K hP (q0 := 0) rfl) hl.1 dX2_withDayOfYear_21 ⟨Nat.le_of_ble_eq_true rfl, Nat.le_of_ble_eq_true rfl⟩ rfl (Nat.le_of_ble_eq_true rfl) ⟨Nat.le_of_ble_eq_true rfl, Nat.le_of_ble_eq_true rfl⟩ (fun H locs hP hD hS => ?_)
  have hP : va_P (gD G) vwCl (wM G b ((fth (fX2_isNone p0) (if (fX2_isFrom (1 : Int32) (366 : Int32) p1) = 0 then (1 : Int32) else (0 : Int32))), (my T), (mm T), (md T), (mt T), (T.2.2.2.2.2))) H := hP
  have hD : va_D A (wM G b ((fth (fX2_isNone p0) (if (fX2_isFrom (1 : Int32) (366 : Int32) p1) = 0 then (1 : Int32) else (0 : Int32))), (my T), (mm T), (md T), (mt T), (T.2.2.2.2.2))) := hD
  refine lv_if_eq (tgt := 29) hx hb dX2_withDayOfYear_24 (by decide) (fun c_1 => ?_) (fun c_1 => ?_)
  · have c_1 := rf_p c_1
    refine lv_iload_n hx hb dX2_withDayOfYear_29 rfl (lv_at hl 2 rfl) ?_
    refine lv_aload_n hx hb dX2_withDayOfYear_30 rfl (lv_at hl 0 rfl) ?_
    refine va_get (D := gD G) (cl := vwCl) (tys := gT G) (ci := 4) (v := .ref (b 1)) (C := RX2) (T := TX2) (N := 12) hx hb hw inB_X2 hown hE.K hP 0 rfl rfl 1 (by decide) (hw _ bw1164) (fun _ h9 => h9) rfl dX2_withDayOfYear_31 ?_
    refine lv_iload_n hx hb dX2_withDayOfYear_34 rfl (lv_at hl 1 rfl) ?_
    refine va_iald (tys := gT G) hx hb hE.K hP 1 0 rfl rfl (none_in (frf_a c_1)) dX2_withDayOfYear_35 ?_
    refine rcSi (as := [.int ((my T) p0.toNatClampNeg)]) (rest := [.int p1]) C (c_X2_daysOf_ l G ((my T) p0.toNatClampNeg)) F_X2_daysOf_ rfl bw1289 bw1290 (hE.S hS hAB) vpn hl.1 dX2_withDayOfYear_36 ⟨Nat.le_of_ble_eq_true rfl, Nat.le_of_ble_eq_true rfl⟩ rfl (Nat.le_of_ble_eq_true rfl) ⟨Nat.le_of_ble_eq_true rfl, Nat.le_of_ble_eq_true rfl⟩ ?_
    refine lv_icmp_le (tgt := 47) hx hb dX2_withDayOfYear_39 (by decide) (fun c_2 => ?_) (fun c_2 => ?_)
    · refine lv_aload_n hx hb dX2_withDayOfYear_47 rfl (lv_at hl 0 rfl) ?_
      refine lv_iload_n hx hb dX2_withDayOfYear_48 rfl (lv_at hl 1 rfl) ?_
      refine lv_aload_n hx hb dX2_withDayOfYear_49 rfl (lv_at hl 0 rfl) ?_
      refine va_get (D := gD G) (cl := vwCl) (tys := gT G) (ci := 4) (v := .ref (b 1)) (C := RX2) (T := TX2) (N := 12) hx hb hw inB_X2 hown hE.K hP 0 rfl rfl 1 (by decide) (hw _ bw1164) (fun _ h9 => h9) rfl dX2_withDayOfYear_50 ?_
      refine lv_iload_n hx hb dX2_withDayOfYear_53 rfl (lv_at hl 1 rfl) ?_
      refine va_iald (tys := gT G) hx hb hE.K hP 1 0 rfl rfl (none_in (frf_a c_1)) dX2_withDayOfYear_54 ?_
      refine lv_iconst (v := (1 : Int32)) hx hb dX2_withDayOfYear_55 qi_1 ?_
      refine lv_iconst (v := (1 : Int32)) hx hb dX2_withDayOfYear_56 qi_1 ?_
      refine rcSl (as := [.int ((my T) p0.toNatClampNeg), .int (1 : Int32), .int (1 : Int32)]) (rest := [.int p0, .ref (b 0)]) C (c_X2_dayOf l G ((my T) p0.toNatClampNeg) (1 : Int32) (1 : Int32) (by decide)) F_X2_dayOf rfl bw1251 bw1252 (hE.S hS hAB) vpn hl.1 dX2_withDayOfYear_57 ⟨Nat.le_of_ble_eq_true rfl, Nat.le_of_ble_eq_true rfl⟩ rfl (Nat.le_of_ble_eq_true rfl) ⟨Nat.le_of_ble_eq_true rfl, Nat.le_of_ble_eq_true rfl⟩ ?_
      refine lv_iload_n hx hb dX2_withDayOfYear_60 rfl (lv_at hl 2 rfl) ?_
      refine lv_i2l (v := (p1.toInt64)) hx hb dX2_withDayOfYear_61 (by first | rfl | decide) ?_
      refine lv_ladd hx hb dX2_withDayOfYear_62 ?_
      refine lv_lconst (v := (1 : Int64)) hx hb dX2_withDayOfYear_63 ql_1 ?_
      refine lv_lsub hx hb dX2_withDayOfYear_64 ?_
      refine lv_aload_n hx hb dX2_withDayOfYear_65 rfl (lv_at hl 0 rfl) ?_
      refine va_get (D := gD G) (cl := vwCl) (tys := gT G) (ci := 4) (v := .ref (b 4)) (C := RX2) (T := TX2) (N := 12) hx hb hw inB_X2 hown hE.K hP 0 rfl rfl 4 (by decide) (hw _ bw1167) (fun _ h9 => h9) rfl dX2_withDayOfYear_66 ?_
      refine lv_iload_n hx hb dX2_withDayOfYear_69 rfl (lv_at hl 1 rfl) ?_
      refine va_lald (tys := gT G) hx hb hE.K hP 4 1 rfl rfl (none_in (frf_a c_1)) dX2_withDayOfYear_70 ?_
      refine wcVi (as := [.int p0, .long (((fX2_dayOf ((my T) p0.toNatClampNeg) (1 : Int32) (1 : Int32)) + (p1.toInt64)) - (1 : Int64)), .long ((mt T) p0.toNatClampNeg)]) (rest := []) (cl := RX2) C (c_X2_becomeDay l G b ((fth (fX2_isNone p0) (if (fX2_isFrom (1 : Int32) (366 : Int32) p1) = 0 then (1 : Int32) else (0 : Int32))), (my T), (mm T), (md T), (mt T), (T.2.2.2.2.2)) p0 (((fX2_dayOf ((my T) p0.toNatClampNeg) (1 : Int32) (1 : Int32)) + (p1.toInt64)) - (1 : Int64)) ((mt T) p0.toNatClampNeg) (none_in (frf_a c_1)) (MO.same hT rfl)) F_X2_becomeDay rfl bw1281 bw1283 bw39 (hE.S hS hAB) hP hD hS hA hAB (rv4 hE.K hP (q0 := 0) rfl) hl.1 dX2_withDayOfYear_71 ⟨Nat.le_of_ble_eq_true rfl, Nat.le_of_ble_eq_true rfl⟩ rfl (Nat.le_of_ble_eq_true rfl) ⟨Nat.le_of_ble_eq_true rfl, Nat.le_of_ble_eq_true rfl⟩ (fun H locs hP hD hS => ?_)
      exact we_i (wf := wM G b) hx hb hr hk hP hD hS (Nat.le_of_ble_eq_true rfl) (Nat.le_of_ble_eq_true rfl) dX2_withDayOfYear_74 (Eq.trans (if_pos c_1) (if_pos c_2))
    · refine lv_aload_n hx hb dX2_withDayOfYear_42 rfl (lv_at hl 0 rfl) ?_
      refine wcVi (as := []) (rest := []) (cl := RX2) C (c_X2_refuse l G b ((fth (fX2_isNone p0) (if (fX2_isFrom (1 : Int32) (366 : Int32) p1) = 0 then (1 : Int32) else (0 : Int32))), (my T), (mm T), (md T), (mt T), (T.2.2.2.2.2))) F_X2_refuse rfl bw1229 bw1231 bw34 (hE.S hS hAB) hP hD hS hA hAB (rv4 hE.K hP (q0 := 0) rfl) hl.1 dX2_withDayOfYear_43 ⟨Nat.le_of_ble_eq_true rfl, Nat.le_of_ble_eq_true rfl⟩ rfl (Nat.le_of_ble_eq_true rfl) ⟨Nat.le_of_ble_eq_true rfl, Nat.le_of_ble_eq_true rfl⟩ (fun H locs hP hD hS => ?_)
      exact we_i (wf := wM G b) hx hb hr hk hP hD hS (Nat.le_of_ble_eq_true rfl) (Nat.le_of_ble_eq_true rfl) dX2_withDayOfYear_46 (Eq.trans (if_pos c_1) (if_neg c_2))
  · have c_1 := rf_n c_1
    refine lv_iconst (v := (0 : Int32)) hx hb dX2_withDayOfYear_27 qi_0 ?_
    exact we_i (wf := wM G b) hx hb hr hk hP hD hS (Nat.le_of_ble_eq_true rfl) (Nat.le_of_ble_eq_true rfl) dX2_withDayOfYear_28 (if_neg c_1)

set_option maxRecDepth 100000 in
set_option maxHeartbeats 4000000 in
theorem c_X2_withHour (l : Launch) (G : GT) (b : Nat → Nat) (T : SM) (p0 : Int32) (p1 : Int32) (hT : MO T) : WR l G yX2_withHour cX2_withHour 3 (some .int) 12 0 0 [.ref (b 0), .int p0, .int p1] (wM G b T) (wM G b (gX2_withHour T p0 p1).2) (some (.int (gX2_withHour T p0 p1).1)) := by
  refine WR.ofW (own := RX2) rfl (plainFor_of_name pnN_RX2) (Nat.le_of_ble_eq_true rfl) ?_
  intro p e s m below meth c A C hr hk hnm hE hP hD hA hAB hS ls hl
  have hx := C.1
  have hb := C.2.1
  have hown := C.2.2.2.1
  have hw := C.2.2.2.2
  have hl : lv_has ls 3 [(0, .ref (b 0)), (1, .int p0), (2, .int p1)] := hl
  refine lv_aload_n hx hb dX2_withHour_0 rfl (lv_at hl 0 rfl) ?_
  refine lv_iload_n hx hb dX2_withHour_1 rfl (lv_at hl 1 rfl) ?_
  refine rcSi (as := [.int p0]) (rest := [.ref (b 0)]) C (c_X2_isNone l G p0) F_X2_isNone rfl bw1216 bw1217 (hE.S hS hAB) vpn hl.1 dX2_withHour_2 ⟨Nat.le_of_ble_eq_true rfl, Nat.le_of_ble_eq_true rfl⟩ rfl (Nat.le_of_ble_eq_true rfl) ⟨Nat.le_of_ble_eq_true rfl, Nat.le_of_ble_eq_true rfl⟩ ?_
  refine lv_iconst (v := (0 : Int32)) hx hb dX2_withHour_5 qi_0 ?_
  refine lv_bipush (v := (23 : Int32)) hx hb dX2_withHour_6 qb_23 ?_
  refine lv_iload_n hx hb dX2_withHour_8 rfl (lv_at hl 2 rfl) ?_
  refine rcSi (as := [.int (0 : Int32), .int (23 : Int32), .int p1]) (rest := [.int (fX2_isNone p0), .ref (b 0)]) C (c_X2_isFrom l G (0 : Int32) (23 : Int32) p1) F_X2_isFrom rfl bw1208 bw1209 (hE.S hS hAB) vpn hl.1 dX2_withHour_9 ⟨Nat.le_of_ble_eq_true rfl, Nat.le_of_ble_eq_true rfl⟩ rfl (Nat.le_of_ble_eq_true rfl) ⟨Nat.le_of_ble_eq_true rfl, Nat.le_of_ble_eq_true rfl⟩ ?_
  refine k_dia (b := (fX2_isFrom (0 : Int32) (23 : Int32) p1) = 0) (x := (1 : Int32)) (y := (0 : Int32)) (Wg := fun z9 => W _ _ _ _ _ _ _ _ _ _ _ _ _ _ _ (F0 m 20 ls (.int z9 :: _))) ?_ (fun t9 f9 => lv_if_ne (tgt := 19) hx hb dX2_withHour_12 (by decide) (fun c_x => lv_iconst (v := (0 : Int32)) hx hb dX2_withHour_19 qi_0 (f9 c_x)) (fun c_x => lv_iconst (v := (1 : Int32)) hx hb dX2_withHour_15 qi_1 (lv_goto (tgt := 20) hx hb dX2_withHour_16 (by decide) (t9 c_x))))
  refine wcVi (as := [.int (fX2_isNone p0), .int (if (fX2_isFrom (0 : Int32) (23 : Int32) p1) = 0 then (1 : Int32) else (0 : Int32))]) (rest := []) (cl := RX2) C (c_X2_refuses l G b T (fX2_isNone p0) (if (fX2_isFrom (0 : Int32) (23 : Int32) p1) = 0 then (1 : Int32) else (0 : Int32))) F_X2_refuses rfl bw1219 bw1221 bw33 (hE.S hS hAB) hP hD hS hA hAB (rv4 hE.K hP (q0 := 0) rfl) hl.1 dX2_withHour_20 ⟨Nat.le_of_ble_eq_true rfl, Nat.le_of_ble_eq_true rfl⟩ rfl (Nat.le_of_ble_eq_true rfl) ⟨Nat.le_of_ble_eq_true rfl, Nat.le_of_ble_eq_true rfl⟩ (fun H locs hP hD hS => ?_)
  have hP : va_P (gD G) vwCl (wM G b ((fth (fX2_isNone p0) (if (fX2_isFrom (0 : Int32) (23 : Int32) p1) = 0 then (1 : Int32) else (0 : Int32))), (my T), (mm T), (md T), (mt T), (T.2.2.2.2.2))) H := hP
  have hD : va_D A (wM G b ((fth (fX2_isNone p0) (if (fX2_isFrom (0 : Int32) (23 : Int32) p1) = 0 then (1 : Int32) else (0 : Int32))), (my T), (mm T), (md T), (mt T), (T.2.2.2.2.2))) := hD
  refine lv_if_eq (tgt := 30) hx hb dX2_withHour_23 (by decide) (fun c_1 => ?_) (fun c_1 => ?_)
  · have c_1 := rf_p c_1
    refine lv_aload_n hx hb dX2_withHour_30 rfl (lv_at hl 0 rfl) ?_
    refine lv_iload_n hx hb dX2_withHour_31 rfl (lv_at hl 1 rfl) ?_
    refine lv_ldc2 (v := (3600000000000 : Int64)) hx hb hown (hw _ bw1331) dX2_withHour_32 ?_
    refine lv_ldc2 (v := (24 : Int64)) hx hb hown (hw _ bw1332) dX2_withHour_35 ?_
    refine lv_iload_n hx hb dX2_withHour_38 rfl (lv_at hl 2 rfl) ?_
    refine lv_i2l (v := (p1.toInt64)) hx hb dX2_withHour_39 (by first | rfl | decide) ?_
    refine wcVi (as := [.int p0, .long (3600000000000 : Int64), .long (24 : Int64), .long (p1.toInt64)]) (rest := []) (cl := RX2) C (c_X2_withPart l G b ((fth (fX2_isNone p0) (if (fX2_isFrom (0 : Int32) (23 : Int32) p1) = 0 then (1 : Int32) else (0 : Int32))), (my T), (mm T), (md T), (mt T), (T.2.2.2.2.2)) p0 (3600000000000 : Int64) (24 : Int64) (p1.toInt64) (none_in (frf_a c_1)) (MO.same hT rfl) (by decide) (by decide)) F_X2_withPart rfl bw1333 bw1335 bw41 (hE.S hS hAB) hP hD hS hA hAB (rv4 hE.K hP (q0 := 0) rfl) hl.1 dX2_withHour_40 ⟨Nat.le_of_ble_eq_true rfl, Nat.le_of_ble_eq_true rfl⟩ rfl (Nat.le_of_ble_eq_true rfl) ⟨Nat.le_of_ble_eq_true rfl, Nat.le_of_ble_eq_true rfl⟩ (fun H locs hP hD hS => ?_)
    exact we_i (wf := wM G b) hx hb hr hk hP hD hS (Nat.le_of_ble_eq_true rfl) (Nat.le_of_ble_eq_true rfl) dX2_withHour_43 (if_pos c_1)
  · have c_1 := rf_n c_1
    refine lv_iconst (v := (0 : Int32)) hx hb dX2_withHour_26 qi_0 ?_
    refine lv_goto (tgt := 43) hx hb dX2_withHour_27 (by decide) ?_
    exact we_i (wf := wM G b) hx hb hr hk hP hD hS (Nat.le_of_ble_eq_true rfl) (Nat.le_of_ble_eq_true rfl) dX2_withHour_43 (if_neg c_1)

set_option maxRecDepth 100000 in
set_option maxHeartbeats 4000000 in
theorem c_X2_withMinute (l : Launch) (G : GT) (b : Nat → Nat) (T : SM) (p0 : Int32) (p1 : Int32) (hT : MO T) : WR l G yX2_withMinute cX2_withMinute 3 (some .int) 12 0 0 [.ref (b 0), .int p0, .int p1] (wM G b T) (wM G b (gX2_withMinute T p0 p1).2) (some (.int (gX2_withMinute T p0 p1).1)) := by
  refine WR.ofW (own := RX2) rfl (plainFor_of_name pnN_RX2) (Nat.le_of_ble_eq_true rfl) ?_
  intro p e s m below meth c A C hr hk hnm hE hP hD hA hAB hS ls hl
  have hx := C.1
  have hb := C.2.1
  have hown := C.2.2.2.1
  have hw := C.2.2.2.2
  have hl : lv_has ls 3 [(0, .ref (b 0)), (1, .int p0), (2, .int p1)] := hl
  refine lv_aload_n hx hb dX2_withMinute_0 rfl (lv_at hl 0 rfl) ?_
  refine lv_iload_n hx hb dX2_withMinute_1 rfl (lv_at hl 1 rfl) ?_
  refine rcSi (as := [.int p0]) (rest := [.ref (b 0)]) C (c_X2_isNone l G p0) F_X2_isNone rfl bw1216 bw1217 (hE.S hS hAB) vpn hl.1 dX2_withMinute_2 ⟨Nat.le_of_ble_eq_true rfl, Nat.le_of_ble_eq_true rfl⟩ rfl (Nat.le_of_ble_eq_true rfl) ⟨Nat.le_of_ble_eq_true rfl, Nat.le_of_ble_eq_true rfl⟩ ?_
  refine lv_iconst (v := (0 : Int32)) hx hb dX2_withMinute_5 qi_0 ?_
  refine lv_bipush (v := (59 : Int32)) hx hb dX2_withMinute_6 qb_59 ?_
  refine lv_iload_n hx hb dX2_withMinute_8 rfl (lv_at hl 2 rfl) ?_
  refine rcSi (as := [.int (0 : Int32), .int (59 : Int32), .int p1]) (rest := [.int (fX2_isNone p0), .ref (b 0)]) C (c_X2_isFrom l G (0 : Int32) (59 : Int32) p1) F_X2_isFrom rfl bw1208 bw1209 (hE.S hS hAB) vpn hl.1 dX2_withMinute_9 ⟨Nat.le_of_ble_eq_true rfl, Nat.le_of_ble_eq_true rfl⟩ rfl (Nat.le_of_ble_eq_true rfl) ⟨Nat.le_of_ble_eq_true rfl, Nat.le_of_ble_eq_true rfl⟩ ?_
  refine k_dia (b := (fX2_isFrom (0 : Int32) (59 : Int32) p1) = 0) (x := (1 : Int32)) (y := (0 : Int32)) (Wg := fun z9 => W _ _ _ _ _ _ _ _ _ _ _ _ _ _ _ (F0 m 20 ls (.int z9 :: _))) ?_ (fun t9 f9 => lv_if_ne (tgt := 19) hx hb dX2_withMinute_12 (by decide) (fun c_x => lv_iconst (v := (0 : Int32)) hx hb dX2_withMinute_19 qi_0 (f9 c_x)) (fun c_x => lv_iconst (v := (1 : Int32)) hx hb dX2_withMinute_15 qi_1 (lv_goto (tgt := 20) hx hb dX2_withMinute_16 (by decide) (t9 c_x))))
  refine wcVi (as := [.int (fX2_isNone p0), .int (if (fX2_isFrom (0 : Int32) (59 : Int32) p1) = 0 then (1 : Int32) else (0 : Int32))]) (rest := []) (cl := RX2) C (c_X2_refuses l G b T (fX2_isNone p0) (if (fX2_isFrom (0 : Int32) (59 : Int32) p1) = 0 then (1 : Int32) else (0 : Int32))) F_X2_refuses rfl bw1219 bw1221 bw33 (hE.S hS hAB) hP hD hS hA hAB (rv4 hE.K hP (q0 := 0) rfl) hl.1 dX2_withMinute_20 ⟨Nat.le_of_ble_eq_true rfl, Nat.le_of_ble_eq_true rfl⟩ rfl (Nat.le_of_ble_eq_true rfl) ⟨Nat.le_of_ble_eq_true rfl, Nat.le_of_ble_eq_true rfl⟩ (fun H locs hP hD hS => ?_)
  have hP : va_P (gD G) vwCl (wM G b ((fth (fX2_isNone p0) (if (fX2_isFrom (0 : Int32) (59 : Int32) p1) = 0 then (1 : Int32) else (0 : Int32))), (my T), (mm T), (md T), (mt T), (T.2.2.2.2.2))) H := hP
  have hD : va_D A (wM G b ((fth (fX2_isNone p0) (if (fX2_isFrom (0 : Int32) (59 : Int32) p1) = 0 then (1 : Int32) else (0 : Int32))), (my T), (mm T), (md T), (mt T), (T.2.2.2.2.2))) := hD
  refine lv_if_eq (tgt := 30) hx hb dX2_withMinute_23 (by decide) (fun c_1 => ?_) (fun c_1 => ?_)
  · have c_1 := rf_p c_1
    refine lv_aload_n hx hb dX2_withMinute_30 rfl (lv_at hl 0 rfl) ?_
    refine lv_iload_n hx hb dX2_withMinute_31 rfl (lv_at hl 1 rfl) ?_
    refine lv_ldc2 (v := (60000000000 : Int64)) hx hb hown (hw _ bw1341) dX2_withMinute_32 ?_
    refine lv_ldc2 (v := (60 : Int64)) hx hb hown (hw _ bw1237) dX2_withMinute_35 ?_
    refine lv_iload_n hx hb dX2_withMinute_38 rfl (lv_at hl 2 rfl) ?_
    refine lv_i2l (v := (p1.toInt64)) hx hb dX2_withMinute_39 (by first | rfl | decide) ?_
    refine wcVi (as := [.int p0, .long (60000000000 : Int64), .long (60 : Int64), .long (p1.toInt64)]) (rest := []) (cl := RX2) C (c_X2_withPart l G b ((fth (fX2_isNone p0) (if (fX2_isFrom (0 : Int32) (59 : Int32) p1) = 0 then (1 : Int32) else (0 : Int32))), (my T), (mm T), (md T), (mt T), (T.2.2.2.2.2)) p0 (60000000000 : Int64) (60 : Int64) (p1.toInt64) (none_in (frf_a c_1)) (MO.same hT rfl) (by decide) (by decide)) F_X2_withPart rfl bw1333 bw1335 bw41 (hE.S hS hAB) hP hD hS hA hAB (rv4 hE.K hP (q0 := 0) rfl) hl.1 dX2_withMinute_40 ⟨Nat.le_of_ble_eq_true rfl, Nat.le_of_ble_eq_true rfl⟩ rfl (Nat.le_of_ble_eq_true rfl) ⟨Nat.le_of_ble_eq_true rfl, Nat.le_of_ble_eq_true rfl⟩ (fun H locs hP hD hS => ?_)
    exact we_i (wf := wM G b) hx hb hr hk hP hD hS (Nat.le_of_ble_eq_true rfl) (Nat.le_of_ble_eq_true rfl) dX2_withMinute_43 (if_pos c_1)
  · have c_1 := rf_n c_1
    refine lv_iconst (v := (0 : Int32)) hx hb dX2_withMinute_26 qi_0 ?_
    refine lv_goto (tgt := 43) hx hb dX2_withMinute_27 (by decide) ?_
    exact we_i (wf := wM G b) hx hb hr hk hP hD hS (Nat.le_of_ble_eq_true rfl) (Nat.le_of_ble_eq_true rfl) dX2_withMinute_43 (if_neg c_1)

set_option maxRecDepth 100000 in
set_option maxHeartbeats 4000000 in
theorem c_X2_withSecond (l : Launch) (G : GT) (b : Nat → Nat) (T : SM) (p0 : Int32) (p1 : Int32) (hT : MO T) : WR l G yX2_withSecond cX2_withSecond 3 (some .int) 12 0 0 [.ref (b 0), .int p0, .int p1] (wM G b T) (wM G b (gX2_withSecond T p0 p1).2) (some (.int (gX2_withSecond T p0 p1).1)) := by
  refine WR.ofW (own := RX2) rfl (plainFor_of_name pnN_RX2) (Nat.le_of_ble_eq_true rfl) ?_
  intro p e s m below meth c A C hr hk hnm hE hP hD hA hAB hS ls hl
  have hx := C.1
  have hb := C.2.1
  have hown := C.2.2.2.1
  have hw := C.2.2.2.2
  have hl : lv_has ls 3 [(0, .ref (b 0)), (1, .int p0), (2, .int p1)] := hl
  refine lv_aload_n hx hb dX2_withSecond_0 rfl (lv_at hl 0 rfl) ?_
  refine lv_iload_n hx hb dX2_withSecond_1 rfl (lv_at hl 1 rfl) ?_
  refine rcSi (as := [.int p0]) (rest := [.ref (b 0)]) C (c_X2_isNone l G p0) F_X2_isNone rfl bw1216 bw1217 (hE.S hS hAB) vpn hl.1 dX2_withSecond_2 ⟨Nat.le_of_ble_eq_true rfl, Nat.le_of_ble_eq_true rfl⟩ rfl (Nat.le_of_ble_eq_true rfl) ⟨Nat.le_of_ble_eq_true rfl, Nat.le_of_ble_eq_true rfl⟩ ?_
  refine lv_iconst (v := (0 : Int32)) hx hb dX2_withSecond_5 qi_0 ?_
  refine lv_bipush (v := (59 : Int32)) hx hb dX2_withSecond_6 qb_59 ?_
  refine lv_iload_n hx hb dX2_withSecond_8 rfl (lv_at hl 2 rfl) ?_
  refine rcSi (as := [.int (0 : Int32), .int (59 : Int32), .int p1]) (rest := [.int (fX2_isNone p0), .ref (b 0)]) C (c_X2_isFrom l G (0 : Int32) (59 : Int32) p1) F_X2_isFrom rfl bw1208 bw1209 (hE.S hS hAB) vpn hl.1 dX2_withSecond_9 ⟨Nat.le_of_ble_eq_true rfl, Nat.le_of_ble_eq_true rfl⟩ rfl (Nat.le_of_ble_eq_true rfl) ⟨Nat.le_of_ble_eq_true rfl, Nat.le_of_ble_eq_true rfl⟩ ?_
  refine k_dia (b := (fX2_isFrom (0 : Int32) (59 : Int32) p1) = 0) (x := (1 : Int32)) (y := (0 : Int32)) (Wg := fun z9 => W _ _ _ _ _ _ _ _ _ _ _ _ _ _ _ (F0 m 20 ls (.int z9 :: _))) ?_ (fun t9 f9 => lv_if_ne (tgt := 19) hx hb dX2_withSecond_12 (by decide) (fun c_x => lv_iconst (v := (0 : Int32)) hx hb dX2_withSecond_19 qi_0 (f9 c_x)) (fun c_x => lv_iconst (v := (1 : Int32)) hx hb dX2_withSecond_15 qi_1 (lv_goto (tgt := 20) hx hb dX2_withSecond_16 (by decide) (t9 c_x))))
  refine wcVi (as := [.int (fX2_isNone p0), .int (if (fX2_isFrom (0 : Int32) (59 : Int32) p1) = 0 then (1 : Int32) else (0 : Int32))]) (rest := []) (cl := RX2) C (c_X2_refuses l G b T (fX2_isNone p0) (if (fX2_isFrom (0 : Int32) (59 : Int32) p1) = 0 then (1 : Int32) else (0 : Int32))) F_X2_refuses rfl bw1219 bw1221 bw33 (hE.S hS hAB) hP hD hS hA hAB (rv4 hE.K hP (q0 := 0) rfl) hl.1 dX2_withSecond_20 ⟨Nat.le_of_ble_eq_true rfl, Nat.le_of_ble_eq_true rfl⟩ rfl (Nat.le_of_ble_eq_true rfl) ⟨Nat.le_of_ble_eq_true rfl, Nat.le_of_ble_eq_true rfl⟩ (fun H locs hP hD hS => ?_)
  have hP : va_P (gD G) vwCl (wM G b ((fth (fX2_isNone p0) (if (fX2_isFrom (0 : Int32) (59 : Int32) p1) = 0 then (1 : Int32) else (0 : Int32))), (my T), (mm T), (md T), (mt T), (T.2.2.2.2.2))) H := hP
  have hD : va_D A (wM G b ((fth (fX2_isNone p0) (if (fX2_isFrom (0 : Int32) (59 : Int32) p1) = 0 then (1 : Int32) else (0 : Int32))), (my T), (mm T), (md T), (mt T), (T.2.2.2.2.2))) := hD
  refine lv_if_eq (tgt := 30) hx hb dX2_withSecond_23 (by decide) (fun c_1 => ?_) (fun c_1 => ?_)
  · have c_1 := rf_p c_1
    refine lv_aload_n hx hb dX2_withSecond_30 rfl (lv_at hl 0 rfl) ?_
    refine lv_iload_n hx hb dX2_withSecond_31 rfl (lv_at hl 1 rfl) ?_
    refine lv_ldc2 (v := (1000000000 : Int64)) hx hb hown (hw _ bw1238) dX2_withSecond_32 ?_
    refine lv_ldc2 (v := (60 : Int64)) hx hb hown (hw _ bw1237) dX2_withSecond_35 ?_
    refine lv_iload_n hx hb dX2_withSecond_38 rfl (lv_at hl 2 rfl) ?_
    refine lv_i2l (v := (p1.toInt64)) hx hb dX2_withSecond_39 (by first | rfl | decide) ?_
    refine wcVi (as := [.int p0, .long (1000000000 : Int64), .long (60 : Int64), .long (p1.toInt64)]) (rest := []) (cl := RX2) C (c_X2_withPart l G b ((fth (fX2_isNone p0) (if (fX2_isFrom (0 : Int32) (59 : Int32) p1) = 0 then (1 : Int32) else (0 : Int32))), (my T), (mm T), (md T), (mt T), (T.2.2.2.2.2)) p0 (1000000000 : Int64) (60 : Int64) (p1.toInt64) (none_in (frf_a c_1)) (MO.same hT rfl) (by decide) (by decide)) F_X2_withPart rfl bw1333 bw1335 bw41 (hE.S hS hAB) hP hD hS hA hAB (rv4 hE.K hP (q0 := 0) rfl) hl.1 dX2_withSecond_40 ⟨Nat.le_of_ble_eq_true rfl, Nat.le_of_ble_eq_true rfl⟩ rfl (Nat.le_of_ble_eq_true rfl) ⟨Nat.le_of_ble_eq_true rfl, Nat.le_of_ble_eq_true rfl⟩ (fun H locs hP hD hS => ?_)
    exact we_i (wf := wM G b) hx hb hr hk hP hD hS (Nat.le_of_ble_eq_true rfl) (Nat.le_of_ble_eq_true rfl) dX2_withSecond_43 (if_pos c_1)
  · have c_1 := rf_n c_1
    refine lv_iconst (v := (0 : Int32)) hx hb dX2_withSecond_26 qi_0 ?_
    refine lv_goto (tgt := 43) hx hb dX2_withSecond_27 (by decide) ?_
    exact we_i (wf := wM G b) hx hb hr hk hP hD hS (Nat.le_of_ble_eq_true rfl) (Nat.le_of_ble_eq_true rfl) dX2_withSecond_43 (if_neg c_1)

set_option maxRecDepth 100000 in
set_option maxHeartbeats 4000000 in
theorem c_X2_withNano (l : Launch) (G : GT) (b : Nat → Nat) (T : SM) (p0 : Int32) (p1 : Int32) (hT : MO T) : WR l G yX2_withNano cX2_withNano 3 (some .int) 12 0 0 [.ref (b 0), .int p0, .int p1] (wM G b T) (wM G b (gX2_withNano T p0 p1).2) (some (.int (gX2_withNano T p0 p1).1)) := by
  refine WR.ofW (own := RX2) rfl (plainFor_of_name pnN_RX2) (Nat.le_of_ble_eq_true rfl) ?_
  intro p e s m below meth c A C hr hk hnm hE hP hD hA hAB hS ls hl
  have hx := C.1
  have hb := C.2.1
  have hown := C.2.2.2.1
  have hw := C.2.2.2.2
  have hl : lv_has ls 3 [(0, .ref (b 0)), (1, .int p0), (2, .int p1)] := hl
  refine lv_aload_n hx hb dX2_withNano_0 rfl (lv_at hl 0 rfl) ?_
  refine lv_iload_n hx hb dX2_withNano_1 rfl (lv_at hl 1 rfl) ?_
  refine rcSi (as := [.int p0]) (rest := [.ref (b 0)]) C (c_X2_isNone l G p0) F_X2_isNone rfl bw1216 bw1217 (hE.S hS hAB) vpn hl.1 dX2_withNano_2 ⟨Nat.le_of_ble_eq_true rfl, Nat.le_of_ble_eq_true rfl⟩ rfl (Nat.le_of_ble_eq_true rfl) ⟨Nat.le_of_ble_eq_true rfl, Nat.le_of_ble_eq_true rfl⟩ ?_
  refine lv_iconst (v := (0 : Int32)) hx hb dX2_withNano_5 qi_0 ?_
  refine lv_ldc (v := (999999999 : Int32)) hx hb hown (hw _ bw1211) dX2_withNano_6 ?_
  refine lv_iload_n hx hb dX2_withNano_8 rfl (lv_at hl 2 rfl) ?_
  refine rcSi (as := [.int (0 : Int32), .int (999999999 : Int32), .int p1]) (rest := [.int (fX2_isNone p0), .ref (b 0)]) C (c_X2_isFrom l G (0 : Int32) (999999999 : Int32) p1) F_X2_isFrom rfl bw1208 bw1209 (hE.S hS hAB) vpn hl.1 dX2_withNano_9 ⟨Nat.le_of_ble_eq_true rfl, Nat.le_of_ble_eq_true rfl⟩ rfl (Nat.le_of_ble_eq_true rfl) ⟨Nat.le_of_ble_eq_true rfl, Nat.le_of_ble_eq_true rfl⟩ ?_
  refine k_dia (b := (fX2_isFrom (0 : Int32) (999999999 : Int32) p1) = 0) (x := (1 : Int32)) (y := (0 : Int32)) (Wg := fun z9 => W _ _ _ _ _ _ _ _ _ _ _ _ _ _ _ (F0 m 20 ls (.int z9 :: _))) ?_ (fun t9 f9 => lv_if_ne (tgt := 19) hx hb dX2_withNano_12 (by decide) (fun c_x => lv_iconst (v := (0 : Int32)) hx hb dX2_withNano_19 qi_0 (f9 c_x)) (fun c_x => lv_iconst (v := (1 : Int32)) hx hb dX2_withNano_15 qi_1 (lv_goto (tgt := 20) hx hb dX2_withNano_16 (by decide) (t9 c_x))))
  refine wcVi (as := [.int (fX2_isNone p0), .int (if (fX2_isFrom (0 : Int32) (999999999 : Int32) p1) = 0 then (1 : Int32) else (0 : Int32))]) (rest := []) (cl := RX2) C (c_X2_refuses l G b T (fX2_isNone p0) (if (fX2_isFrom (0 : Int32) (999999999 : Int32) p1) = 0 then (1 : Int32) else (0 : Int32))) F_X2_refuses rfl bw1219 bw1221 bw33 (hE.S hS hAB) hP hD hS hA hAB (rv4 hE.K hP (q0 := 0) rfl) hl.1 dX2_withNano_20 ⟨Nat.le_of_ble_eq_true rfl, Nat.le_of_ble_eq_true rfl⟩ rfl (Nat.le_of_ble_eq_true rfl) ⟨Nat.le_of_ble_eq_true rfl, Nat.le_of_ble_eq_true rfl⟩ (fun H locs hP hD hS => ?_)
  have hP : va_P (gD G) vwCl (wM G b ((fth (fX2_isNone p0) (if (fX2_isFrom (0 : Int32) (999999999 : Int32) p1) = 0 then (1 : Int32) else (0 : Int32))), (my T), (mm T), (md T), (mt T), (T.2.2.2.2.2))) H := hP
  have hD : va_D A (wM G b ((fth (fX2_isNone p0) (if (fX2_isFrom (0 : Int32) (999999999 : Int32) p1) = 0 then (1 : Int32) else (0 : Int32))), (my T), (mm T), (md T), (mt T), (T.2.2.2.2.2))) := hD
  refine lv_if_eq (tgt := 30) hx hb dX2_withNano_23 (by decide) (fun c_1 => ?_) (fun c_1 => ?_)
  · have c_1 := rf_p c_1
    refine lv_aload_n hx hb dX2_withNano_30 rfl (lv_at hl 0 rfl) ?_
    refine lv_iload_n hx hb dX2_withNano_31 rfl (lv_at hl 1 rfl) ?_
    refine lv_lconst (v := (1 : Int64)) hx hb dX2_withNano_32 ql_1 ?_
    refine lv_ldc2 (v := (1000000000 : Int64)) hx hb hown (hw _ bw1238) dX2_withNano_33 ?_
    refine lv_iload_n hx hb dX2_withNano_36 rfl (lv_at hl 2 rfl) ?_
    refine lv_i2l (v := (p1.toInt64)) hx hb dX2_withNano_37 (by first | rfl | decide) ?_
    refine wcVi (as := [.int p0, .long (1 : Int64), .long (1000000000 : Int64), .long (p1.toInt64)]) (rest := []) (cl := RX2) C (c_X2_withPart l G b ((fth (fX2_isNone p0) (if (fX2_isFrom (0 : Int32) (999999999 : Int32) p1) = 0 then (1 : Int32) else (0 : Int32))), (my T), (mm T), (md T), (mt T), (T.2.2.2.2.2)) p0 (1 : Int64) (1000000000 : Int64) (p1.toInt64) (none_in (frf_a c_1)) (MO.same hT rfl) (by decide) (by decide)) F_X2_withPart rfl bw1333 bw1335 bw41 (hE.S hS hAB) hP hD hS hA hAB (rv4 hE.K hP (q0 := 0) rfl) hl.1 dX2_withNano_38 ⟨Nat.le_of_ble_eq_true rfl, Nat.le_of_ble_eq_true rfl⟩ rfl (Nat.le_of_ble_eq_true rfl) ⟨Nat.le_of_ble_eq_true rfl, Nat.le_of_ble_eq_true rfl⟩ (fun H locs hP hD hS => ?_)
    exact we_i (wf := wM G b) hx hb hr hk hP hD hS (Nat.le_of_ble_eq_true rfl) (Nat.le_of_ble_eq_true rfl) dX2_withNano_41 (if_pos c_1)
  · have c_1 := rf_n c_1
    refine lv_iconst (v := (0 : Int32)) hx hb dX2_withNano_26 qi_0 ?_
    refine lv_goto (tgt := 41) hx hb dX2_withNano_27 (by decide) ?_
    exact we_i (wf := wM G b) hx hb hr hk hP hD hS (Nat.le_of_ble_eq_true rfl) (Nat.le_of_ble_eq_true rfl) dX2_withNano_41 (if_neg c_1)

set_option maxRecDepth 100000 in
set_option maxHeartbeats 4000000 in
theorem c_X2_truncate (l : Launch) (G : GT) (b : Nat → Nat) (T : SM) (p0 : Int32) (p1 : Int32) (hT : MO T) : WR l G yX2_truncate cX2_truncate 3 (some .int) 12 0 0 [.ref (b 0), .int p0, .int p1] (wM G b T) (wM G b (gX2_truncate T p0 p1).2) (some (.int (gX2_truncate T p0 p1).1)) := by
  refine WR.ofW (own := RX2) rfl (plainFor_of_name pnN_RX2) (Nat.le_of_ble_eq_true rfl) ?_
  intro p e s m below meth c A C hr hk hnm hE hP hD hA hAB hS ls hl
  have hx := C.1
  have hb := C.2.1
  have hown := C.2.2.2.1
  have hw := C.2.2.2.2
  have hl : lv_has ls 3 [(0, .ref (b 0)), (1, .int p0), (2, .int p1)] := hl
  refine lv_aload_n hx hb dX2_truncate_0 rfl (lv_at hl 0 rfl) ?_
  refine lv_iload_n hx hb dX2_truncate_1 rfl (lv_at hl 1 rfl) ?_
  refine rcSi (as := [.int p0]) (rest := [.ref (b 0)]) C (c_X2_isNone l G p0) F_X2_isNone rfl bw1216 bw1217 (hE.S hS hAB) vpn hl.1 dX2_truncate_2 ⟨Nat.le_of_ble_eq_true rfl, Nat.le_of_ble_eq_true rfl⟩ rfl (Nat.le_of_ble_eq_true rfl) ⟨Nat.le_of_ble_eq_true rfl, Nat.le_of_ble_eq_true rfl⟩ ?_
  refine lv_iconst (v := (0 : Int32)) hx hb dX2_truncate_5 qi_0 ?_
  refine lv_bipush (v := (7 : Int32)) hx hb dX2_truncate_6 qb_7 ?_
  refine lv_iload_n hx hb dX2_truncate_8 rfl (lv_at hl 2 rfl) ?_
  refine rcSi (as := [.int (0 : Int32), .int (7 : Int32), .int p1]) (rest := [.int (fX2_isNone p0), .ref (b 0)]) C (c_X2_isFrom l G (0 : Int32) (7 : Int32) p1) F_X2_isFrom rfl bw1208 bw1209 (hE.S hS hAB) vpn hl.1 dX2_truncate_9 ⟨Nat.le_of_ble_eq_true rfl, Nat.le_of_ble_eq_true rfl⟩ rfl (Nat.le_of_ble_eq_true rfl) ⟨Nat.le_of_ble_eq_true rfl, Nat.le_of_ble_eq_true rfl⟩ ?_
  refine k_dia (b := (fX2_isFrom (0 : Int32) (7 : Int32) p1) = 0) (x := (1 : Int32)) (y := (0 : Int32)) (Wg := fun z9 => W _ _ _ _ _ _ _ _ _ _ _ _ _ _ _ (F0 m 20 ls (.int z9 :: _))) ?_ (fun t9 f9 => lv_if_ne (tgt := 19) hx hb dX2_truncate_12 (by decide) (fun c_x => lv_iconst (v := (0 : Int32)) hx hb dX2_truncate_19 qi_0 (f9 c_x)) (fun c_x => lv_iconst (v := (1 : Int32)) hx hb dX2_truncate_15 qi_1 (lv_goto (tgt := 20) hx hb dX2_truncate_16 (by decide) (t9 c_x))))
  refine wcVi (as := [.int (fX2_isNone p0), .int (if (fX2_isFrom (0 : Int32) (7 : Int32) p1) = 0 then (1 : Int32) else (0 : Int32))]) (rest := []) (cl := RX2) C (c_X2_refuses l G b T (fX2_isNone p0) (if (fX2_isFrom (0 : Int32) (7 : Int32) p1) = 0 then (1 : Int32) else (0 : Int32))) F_X2_refuses rfl bw1219 bw1221 bw33 (hE.S hS hAB) hP hD hS hA hAB (rv4 hE.K hP (q0 := 0) rfl) hl.1 dX2_truncate_20 ⟨Nat.le_of_ble_eq_true rfl, Nat.le_of_ble_eq_true rfl⟩ rfl (Nat.le_of_ble_eq_true rfl) ⟨Nat.le_of_ble_eq_true rfl, Nat.le_of_ble_eq_true rfl⟩ (fun H locs hP hD hS => ?_)
  have hP : va_P (gD G) vwCl (wM G b ((fth (fX2_isNone p0) (if (fX2_isFrom (0 : Int32) (7 : Int32) p1) = 0 then (1 : Int32) else (0 : Int32))), (my T), (mm T), (md T), (mt T), (T.2.2.2.2.2))) H := hP
  have hD : va_D A (wM G b ((fth (fX2_isNone p0) (if (fX2_isFrom (0 : Int32) (7 : Int32) p1) = 0 then (1 : Int32) else (0 : Int32))), (my T), (mm T), (md T), (mt T), (T.2.2.2.2.2))) := hD
  refine lv_if_eq (tgt := 28) hx hb dX2_truncate_23 (by decide) (fun c_1 => ?_) (fun c_1 => ?_)
  · have c_1 := rf_p c_1
    refine lv_aload_n hx hb dX2_truncate_28 rfl (lv_at hl 0 rfl) ?_
    refine lv_iload_n hx hb dX2_truncate_29 rfl (lv_at hl 1 rfl) ?_
    refine lv_aload_n hx hb dX2_truncate_30 rfl (lv_at hl 0 rfl) ?_
    refine va_get (D := gD G) (cl := vwCl) (tys := gT G) (ci := 4) (v := .ref (b 1)) (C := RX2) (T := TX2) (N := 12) hx hb hw inB_X2 hown hE.K hP 0 rfl rfl 1 (by decide) (hw _ bw1164) (fun _ h9 => h9) rfl dX2_truncate_31 ?_
    refine lv_iload_n hx hb dX2_truncate_34 rfl (lv_at hl 1 rfl) ?_
    refine va_iald (tys := gT G) hx hb hE.K hP 1 0 rfl rfl (none_in (frf_a c_1)) dX2_truncate_35 ?_
    refine lv_aload_n hx hb dX2_truncate_36 rfl (lv_at hl 0 rfl) ?_
    refine va_get (D := gD G) (cl := vwCl) (tys := gT G) (ci := 4) (v := .ref (b 2)) (C := RX2) (T := TX2) (N := 12) hx hb hw inB_X2 hown hE.K hP 0 rfl rfl 2 (by decide) (hw _ bw1165) (fun _ h9 => h9) rfl dX2_truncate_37 ?_
    refine lv_iload_n hx hb dX2_truncate_40 rfl (lv_at hl 1 rfl) ?_
    refine va_iald (tys := gT G) hx hb hE.K hP 2 0 rfl rfl (none_in (frf_a c_1)) dX2_truncate_41 ?_
    refine lv_aload_n hx hb dX2_truncate_42 rfl (lv_at hl 0 rfl) ?_
    refine va_get (D := gD G) (cl := vwCl) (tys := gT G) (ci := 4) (v := .ref (b 3)) (C := RX2) (T := TX2) (N := 12) hx hb hw inB_X2 hown hE.K hP 0 rfl rfl 3 (by decide) (hw _ bw1166) (fun _ h9 => h9) rfl dX2_truncate_43 ?_
    refine lv_iload_n hx hb dX2_truncate_46 rfl (lv_at hl 1 rfl) ?_
    refine va_iald (tys := gT G) hx hb hE.K hP 3 0 rfl rfl (none_in (frf_a c_1)) dX2_truncate_47 ?_
    refine lv_aload_n hx hb dX2_truncate_48 rfl (lv_at hl 0 rfl) ?_
    refine va_get (D := gD G) (cl := vwCl) (tys := gT G) (ci := 4) (v := .ref (b 4)) (C := RX2) (T := TX2) (N := 12) hx hb hw inB_X2 hown hE.K hP 0 rfl rfl 4 (by decide) (hw _ bw1167) (fun _ h9 => h9) rfl dX2_truncate_49 ?_
    refine lv_iload_n hx hb dX2_truncate_52 rfl (lv_at hl 1 rfl) ?_
    refine va_lald (tys := gT G) hx hb hE.K hP 4 1 rfl rfl (none_in (frf_a c_1)) dX2_truncate_53 ?_
    refine lv_aload_n hx hb dX2_truncate_54 rfl (lv_at hl 0 rfl) ?_
    refine va_get (D := gD G) (cl := vwCl) (tys := gT G) (ci := 4) (v := .ref (b 4)) (C := RX2) (T := TX2) (N := 12) hx hb hw inB_X2 hown hE.K hP 0 rfl rfl 4 (by decide) (hw _ bw1167) (fun _ h9 => h9) rfl dX2_truncate_55 ?_
    refine lv_iload_n hx hb dX2_truncate_58 rfl (lv_at hl 1 rfl) ?_
    refine va_lald (tys := gT G) hx hb hE.K hP 4 1 rfl rfl (none_in (frf_a c_1)) dX2_truncate_59 ?_
    refine lv_iload_n hx hb dX2_truncate_60 rfl (lv_at hl 2 rfl) ?_
    refine rcSl (as := [.int p1]) (rest := [.long ((mt T) p0.toNatClampNeg), .long ((mt T) p0.toNatClampNeg), .int ((md T) p0.toNatClampNeg), .int ((mm T) p0.toNatClampNeg), .int ((my T) p0.toNatClampNeg), .int p0, .ref (b 0)]) C (c_X2_nanosOf l G p1) F_X2_nanosOf rfl bw1354 bw1355 (hE.S hS hAB) vpn hl.1 dX2_truncate_61 ⟨Nat.le_of_ble_eq_true rfl, Nat.le_of_ble_eq_true rfl⟩ rfl (Nat.le_of_ble_eq_true rfl) ⟨Nat.le_of_ble_eq_true rfl, Nat.le_of_ble_eq_true rfl⟩ ?_
    refine lv_lrem hx hb dX2_truncate_64 (nz_nanosOf p1) ?_
    refine lv_lsub hx hb dX2_truncate_65 ?_
    refine wcVi (as := [.int p0, .int ((my T) p0.toNatClampNeg), .int ((mm T) p0.toNatClampNeg), .int ((md T) p0.toNatClampNeg), .long (((mt T) p0.toNatClampNeg) - (((mt T) p0.toNatClampNeg) - ((mt T) p0.toNatClampNeg) / (fX2_nanosOf p1) * (fX2_nanosOf p1)))]) (rest := []) (cl := RX2) C (c_X2_become l G b ((fth (fX2_isNone p0) (if (fX2_isFrom (0 : Int32) (7 : Int32) p1) = 0 then (1 : Int32) else (0 : Int32))), (my T), (mm T), (md T), (mt T), (T.2.2.2.2.2)) p0 ((my T) p0.toNatClampNeg) ((mm T) p0.toNatClampNeg) ((md T) p0.toNatClampNeg) (((mt T) p0.toNatClampNeg) - (((mt T) p0.toNatClampNeg) - ((mt T) p0.toNatClampNeg) / (fX2_nanosOf p1) * (fX2_nanosOf p1))) (none_in (frf_a c_1)) (MO.same hT rfl) (MO.at hT (none_in (frf_a c_1)))) F_X2_become rfl bw1239 bw1241 bw36 (hE.S hS hAB) hP hD hS hA hAB (rv4 hE.K hP (q0 := 0) rfl) hl.1 dX2_truncate_66 ⟨Nat.le_of_ble_eq_true rfl, Nat.le_of_ble_eq_true rfl⟩ rfl (Nat.le_of_ble_eq_true rfl) ⟨Nat.le_of_ble_eq_true rfl, Nat.le_of_ble_eq_true rfl⟩ (fun H locs hP hD hS => ?_)
    exact we_i (wf := wM G b) hx hb hr hk hP hD hS (Nat.le_of_ble_eq_true rfl) (Nat.le_of_ble_eq_true rfl) dX2_truncate_69 (if_pos c_1)
  · have c_1 := rf_n c_1
    refine lv_iconst (v := (0 : Int32)) hx hb dX2_truncate_26 qi_0 ?_
    exact we_i (wf := wM G b) hx hb hr hk hP hD hS (Nat.le_of_ble_eq_true rfl) (Nat.le_of_ble_eq_true rfl) dX2_truncate_27 (if_neg c_1)

set_option maxRecDepth 100000 in
set_option maxHeartbeats 4000000 in
theorem c_X2_plusYears (l : Launch) (G : GT) (b : Nat → Nat) (T : SM) (p0 : Int32) (p1 : Int32) (hT : MO T) : WR l G yX2_plusYears cX2_plusYears 3 (some .int) 12 0 0 [.ref (b 0), .int p0, .int p1] (wM G b T) (wM G b (gX2_plusYears T p0 p1).2) (some (.int (gX2_plusYears T p0 p1).1)) := by
  refine WR.ofW (own := RX2) rfl (plainFor_of_name pnN_RX2) (Nat.le_of_ble_eq_true rfl) ?_
  intro p e s m below meth c A C hr hk hnm hE hP hD hA hAB hS ls hl
  have hx := C.1
  have hb := C.2.1
  have hown := C.2.2.2.1
  have hw := C.2.2.2.2
  have hl : lv_has ls 3 [(0, .ref (b 0)), (1, .int p0), (2, .int p1)] := hl
  refine lv_aload_n hx hb dX2_plusYears_0 rfl (lv_at hl 0 rfl) ?_
  refine lv_iload_n hx hb dX2_plusYears_1 rfl (lv_at hl 1 rfl) ?_
  refine rcSi (as := [.int p0]) (rest := [.ref (b 0)]) C (c_X2_isNone l G p0) F_X2_isNone rfl bw1216 bw1217 (hE.S hS hAB) vpn hl.1 dX2_plusYears_2 ⟨Nat.le_of_ble_eq_true rfl, Nat.le_of_ble_eq_true rfl⟩ rfl (Nat.le_of_ble_eq_true rfl) ⟨Nat.le_of_ble_eq_true rfl, Nat.le_of_ble_eq_true rfl⟩ ?_
  refine lv_ldc (v := (-100000000 : Int32)) hx hb hown (hw _ bw1366) dX2_plusYears_5 ?_
  refine lv_ldc (v := (100000000 : Int32)) hx hb hown (hw _ bw1367) dX2_plusYears_7 ?_
  refine lv_iload_n hx hb dX2_plusYears_9 rfl (lv_at hl 2 rfl) ?_
  refine rcSi (as := [.int (-100000000 : Int32), .int (100000000 : Int32), .int p1]) (rest := [.int (fX2_isNone p0), .ref (b 0)]) C (c_X2_isFrom l G (-100000000 : Int32) (100000000 : Int32) p1) F_X2_isFrom rfl bw1208 bw1209 (hE.S hS hAB) vpn hl.1 dX2_plusYears_10 ⟨Nat.le_of_ble_eq_true rfl, Nat.le_of_ble_eq_true rfl⟩ rfl (Nat.le_of_ble_eq_true rfl) ⟨Nat.le_of_ble_eq_true rfl, Nat.le_of_ble_eq_true rfl⟩ ?_
  refine k_dia (b := (fX2_isFrom (-100000000 : Int32) (100000000 : Int32) p1) = 0) (x := (1 : Int32)) (y := (0 : Int32)) (Wg := fun z9 => W _ _ _ _ _ _ _ _ _ _ _ _ _ _ _ (F0 m 21 ls (.int z9 :: _))) ?_ (fun t9 f9 => lv_if_ne (tgt := 20) hx hb dX2_plusYears_13 (by decide) (fun c_x => lv_iconst (v := (0 : Int32)) hx hb dX2_plusYears_20 qi_0 (f9 c_x)) (fun c_x => lv_iconst (v := (1 : Int32)) hx hb dX2_plusYears_16 qi_1 (lv_goto (tgt := 21) hx hb dX2_plusYears_17 (by decide) (t9 c_x))))
  refine wcVi (as := [.int (fX2_isNone p0), .int (if (fX2_isFrom (-100000000 : Int32) (100000000 : Int32) p1) = 0 then (1 : Int32) else (0 : Int32))]) (rest := []) (cl := RX2) C (c_X2_refuses l G b T (fX2_isNone p0) (if (fX2_isFrom (-100000000 : Int32) (100000000 : Int32) p1) = 0 then (1 : Int32) else (0 : Int32))) F_X2_refuses rfl bw1219 bw1221 bw33 (hE.S hS hAB) hP hD hS hA hAB (rv4 hE.K hP (q0 := 0) rfl) hl.1 dX2_plusYears_21 ⟨Nat.le_of_ble_eq_true rfl, Nat.le_of_ble_eq_true rfl⟩ rfl (Nat.le_of_ble_eq_true rfl) ⟨Nat.le_of_ble_eq_true rfl, Nat.le_of_ble_eq_true rfl⟩ (fun H locs hP hD hS => ?_)
  have hP : va_P (gD G) vwCl (wM G b ((fth (fX2_isNone p0) (if (fX2_isFrom (-100000000 : Int32) (100000000 : Int32) p1) = 0 then (1 : Int32) else (0 : Int32))), (my T), (mm T), (md T), (mt T), (T.2.2.2.2.2))) H := hP
  have hD : va_D A (wM G b ((fth (fX2_isNone p0) (if (fX2_isFrom (-100000000 : Int32) (100000000 : Int32) p1) = 0 then (1 : Int32) else (0 : Int32))), (my T), (mm T), (md T), (mt T), (T.2.2.2.2.2))) := hD
  refine lv_if_eq (tgt := 31) hx hb dX2_plusYears_24 (by decide) (fun c_1 => ?_) (fun c_1 => ?_)
  · have c_1 := rf_p c_1
    refine lv_aload_n hx hb dX2_plusYears_31 rfl (lv_at hl 0 rfl) ?_
    refine lv_iload_n hx hb dX2_plusYears_32 rfl (lv_at hl 1 rfl) ?_
    refine lv_ldc2 (v := (12 : Int64)) hx hb hown (hw _ bw1368) dX2_plusYears_33 ?_
    refine lv_iload_n hx hb dX2_plusYears_36 rfl (lv_at hl 2 rfl) ?_
    refine lv_i2l (v := (p1.toInt64)) hx hb dX2_plusYears_37 (by first | rfl | decide) ?_
    refine lv_lmul hx hb dX2_plusYears_38 ?_
    refine wcVi (as := [.int p0, .long ((12 : Int64) * (p1.toInt64))]) (rest := []) (cl := RX2) C (c_X2_onMonths l G b ((fth (fX2_isNone p0) (if (fX2_isFrom (-100000000 : Int32) (100000000 : Int32) p1) = 0 then (1 : Int32) else (0 : Int32))), (my T), (mm T), (md T), (mt T), (T.2.2.2.2.2)) p0 ((12 : Int64) * (p1.toInt64)) (none_in (frf_a c_1)) (MO.same hT rfl)) F_X2_onMonths rfl bw1369 bw1371 bw42 (hE.S hS hAB) hP hD hS hA hAB (rv4 hE.K hP (q0 := 0) rfl) hl.1 dX2_plusYears_39 ⟨Nat.le_of_ble_eq_true rfl, Nat.le_of_ble_eq_true rfl⟩ rfl (Nat.le_of_ble_eq_true rfl) ⟨Nat.le_of_ble_eq_true rfl, Nat.le_of_ble_eq_true rfl⟩ (fun H locs hP hD hS => ?_)
    exact we_i (wf := wM G b) hx hb hr hk hP hD hS (Nat.le_of_ble_eq_true rfl) (Nat.le_of_ble_eq_true rfl) dX2_plusYears_42 (if_pos c_1)
  · have c_1 := rf_n c_1
    refine lv_iconst (v := (0 : Int32)) hx hb dX2_plusYears_27 qi_0 ?_
    refine lv_goto (tgt := 42) hx hb dX2_plusYears_28 (by decide) ?_
    exact we_i (wf := wM G b) hx hb hr hk hP hD hS (Nat.le_of_ble_eq_true rfl) (Nat.le_of_ble_eq_true rfl) dX2_plusYears_42 (if_neg c_1)

set_option maxRecDepth 100000 in
set_option maxHeartbeats 4000000 in
theorem c_X2_minusYears (l : Launch) (G : GT) (b : Nat → Nat) (T : SM) (p0 : Int32) (p1 : Int32) (hT : MO T) : WR l G yX2_minusYears cX2_minusYears 3 (some .int) 12 0 0 [.ref (b 0), .int p0, .int p1] (wM G b T) (wM G b (gX2_minusYears T p0 p1).2) (some (.int (gX2_minusYears T p0 p1).1)) := by
  refine WR.ofW (own := RX2) rfl (plainFor_of_name pnN_RX2) (Nat.le_of_ble_eq_true rfl) ?_
  intro p e s m below meth c A C hr hk hnm hE hP hD hA hAB hS ls hl
  have hx := C.1
  have hb := C.2.1
  have hown := C.2.2.2.1
  have hw := C.2.2.2.2
  have hl : lv_has ls 3 [(0, .ref (b 0)), (1, .int p0), (2, .int p1)] := hl
  refine lv_aload_n hx hb dX2_minusYears_0 rfl (lv_at hl 0 rfl) ?_
  refine lv_iload_n hx hb dX2_minusYears_1 rfl (lv_at hl 1 rfl) ?_
  refine rcSi (as := [.int p0]) (rest := [.ref (b 0)]) C (c_X2_isNone l G p0) F_X2_isNone rfl bw1216 bw1217 (hE.S hS hAB) vpn hl.1 dX2_minusYears_2 ⟨Nat.le_of_ble_eq_true rfl, Nat.le_of_ble_eq_true rfl⟩ rfl (Nat.le_of_ble_eq_true rfl) ⟨Nat.le_of_ble_eq_true rfl, Nat.le_of_ble_eq_true rfl⟩ ?_
  refine lv_ldc (v := (-100000000 : Int32)) hx hb hown (hw _ bw1366) dX2_minusYears_5 ?_
  refine lv_ldc (v := (100000000 : Int32)) hx hb hown (hw _ bw1367) dX2_minusYears_7 ?_
  refine lv_iload_n hx hb dX2_minusYears_9 rfl (lv_at hl 2 rfl) ?_
  refine rcSi (as := [.int (-100000000 : Int32), .int (100000000 : Int32), .int p1]) (rest := [.int (fX2_isNone p0), .ref (b 0)]) C (c_X2_isFrom l G (-100000000 : Int32) (100000000 : Int32) p1) F_X2_isFrom rfl bw1208 bw1209 (hE.S hS hAB) vpn hl.1 dX2_minusYears_10 ⟨Nat.le_of_ble_eq_true rfl, Nat.le_of_ble_eq_true rfl⟩ rfl (Nat.le_of_ble_eq_true rfl) ⟨Nat.le_of_ble_eq_true rfl, Nat.le_of_ble_eq_true rfl⟩ ?_
  refine k_dia (b := (fX2_isFrom (-100000000 : Int32) (100000000 : Int32) p1) = 0) (x := (1 : Int32)) (y := (0 : Int32)) (Wg := fun z9 => W _ _ _ _ _ _ _ _ _ _ _ _ _ _ _ (F0 m 21 ls (.int z9 :: _))) ?_ (fun t9 f9 => lv_if_ne (tgt := 20) hx hb dX2_minusYears_13 (by decide) (fun c_x => lv_iconst (v := (0 : Int32)) hx hb dX2_minusYears_20 qi_0 (f9 c_x)) (fun c_x => lv_iconst (v := (1 : Int32)) hx hb dX2_minusYears_16 qi_1 (lv_goto (tgt := 21) hx hb dX2_minusYears_17 (by decide) (t9 c_x))))
  refine wcVi (as := [.int (fX2_isNone p0), .int (if (fX2_isFrom (-100000000 : Int32) (100000000 : Int32) p1) = 0 then (1 : Int32) else (0 : Int32))]) (rest := []) (cl := RX2) C (c_X2_refuses l G b T (fX2_isNone p0) (if (fX2_isFrom (-100000000 : Int32) (100000000 : Int32) p1) = 0 then (1 : Int32) else (0 : Int32))) F_X2_refuses rfl bw1219 bw1221 bw33 (hE.S hS hAB) hP hD hS hA hAB (rv4 hE.K hP (q0 := 0) rfl) hl.1 dX2_minusYears_21 ⟨Nat.le_of_ble_eq_true rfl, Nat.le_of_ble_eq_true rfl⟩ rfl (Nat.le_of_ble_eq_true rfl) ⟨Nat.le_of_ble_eq_true rfl, Nat.le_of_ble_eq_true rfl⟩ (fun H locs hP hD hS => ?_)
  have hP : va_P (gD G) vwCl (wM G b ((fth (fX2_isNone p0) (if (fX2_isFrom (-100000000 : Int32) (100000000 : Int32) p1) = 0 then (1 : Int32) else (0 : Int32))), (my T), (mm T), (md T), (mt T), (T.2.2.2.2.2))) H := hP
  have hD : va_D A (wM G b ((fth (fX2_isNone p0) (if (fX2_isFrom (-100000000 : Int32) (100000000 : Int32) p1) = 0 then (1 : Int32) else (0 : Int32))), (my T), (mm T), (md T), (mt T), (T.2.2.2.2.2))) := hD
  refine lv_if_eq (tgt := 31) hx hb dX2_minusYears_24 (by decide) (fun c_1 => ?_) (fun c_1 => ?_)
  · have c_1 := rf_p c_1
    refine lv_aload_n hx hb dX2_minusYears_31 rfl (lv_at hl 0 rfl) ?_
    refine lv_iload_n hx hb dX2_minusYears_32 rfl (lv_at hl 1 rfl) ?_
    refine lv_ldc2 (v := (-12 : Int64)) hx hb hown (hw _ bw1405) dX2_minusYears_33 ?_
    refine lv_iload_n hx hb dX2_minusYears_36 rfl (lv_at hl 2 rfl) ?_
    refine lv_i2l (v := (p1.toInt64)) hx hb dX2_minusYears_37 (by first | rfl | decide) ?_
    refine lv_lmul hx hb dX2_minusYears_38 ?_
    refine wcVi (as := [.int p0, .long ((-12 : Int64) * (p1.toInt64))]) (rest := []) (cl := RX2) C (c_X2_onMonths l G b ((fth (fX2_isNone p0) (if (fX2_isFrom (-100000000 : Int32) (100000000 : Int32) p1) = 0 then (1 : Int32) else (0 : Int32))), (my T), (mm T), (md T), (mt T), (T.2.2.2.2.2)) p0 ((-12 : Int64) * (p1.toInt64)) (none_in (frf_a c_1)) (MO.same hT rfl)) F_X2_onMonths rfl bw1369 bw1371 bw42 (hE.S hS hAB) hP hD hS hA hAB (rv4 hE.K hP (q0 := 0) rfl) hl.1 dX2_minusYears_39 ⟨Nat.le_of_ble_eq_true rfl, Nat.le_of_ble_eq_true rfl⟩ rfl (Nat.le_of_ble_eq_true rfl) ⟨Nat.le_of_ble_eq_true rfl, Nat.le_of_ble_eq_true rfl⟩ (fun H locs hP hD hS => ?_)
    exact we_i (wf := wM G b) hx hb hr hk hP hD hS (Nat.le_of_ble_eq_true rfl) (Nat.le_of_ble_eq_true rfl) dX2_minusYears_42 (if_pos c_1)
  · have c_1 := rf_n c_1
    refine lv_iconst (v := (0 : Int32)) hx hb dX2_minusYears_27 qi_0 ?_
    refine lv_goto (tgt := 42) hx hb dX2_minusYears_28 (by decide) ?_
    exact we_i (wf := wM G b) hx hb hr hk hP hD hS (Nat.le_of_ble_eq_true rfl) (Nat.le_of_ble_eq_true rfl) dX2_minusYears_42 (if_neg c_1)

set_option maxRecDepth 100000 in
set_option maxHeartbeats 4000000 in
theorem c_X2_plusMonths (l : Launch) (G : GT) (b : Nat → Nat) (T : SM) (p0 : Int32) (p1 : Int32) (hT : MO T) : WR l G yX2_plusMonths cX2_plusMonths 3 (some .int) 12 0 0 [.ref (b 0), .int p0, .int p1] (wM G b T) (wM G b (gX2_plusMonths T p0 p1).2) (some (.int (gX2_plusMonths T p0 p1).1)) := by
  refine WR.ofW (own := RX2) rfl (plainFor_of_name pnN_RX2) (Nat.le_of_ble_eq_true rfl) ?_
  intro p e s m below meth c A C hr hk hnm hE hP hD hA hAB hS ls hl
  have hx := C.1
  have hb := C.2.1
  have hown := C.2.2.2.1
  have hw := C.2.2.2.2
  have hl : lv_has ls 3 [(0, .ref (b 0)), (1, .int p0), (2, .int p1)] := hl
  refine lv_aload_n hx hb dX2_plusMonths_0 rfl (lv_at hl 0 rfl) ?_
  refine lv_iload_n hx hb dX2_plusMonths_1 rfl (lv_at hl 1 rfl) ?_
  refine rcSi (as := [.int p0]) (rest := [.ref (b 0)]) C (c_X2_isNone l G p0) F_X2_isNone rfl bw1216 bw1217 (hE.S hS hAB) vpn hl.1 dX2_plusMonths_2 ⟨Nat.le_of_ble_eq_true rfl, Nat.le_of_ble_eq_true rfl⟩ rfl (Nat.le_of_ble_eq_true rfl) ⟨Nat.le_of_ble_eq_true rfl, Nat.le_of_ble_eq_true rfl⟩ ?_
  refine lv_iconst (v := (0 : Int32)) hx hb dX2_plusMonths_5 qi_0 ?_
  refine wcVi (as := [.int (fX2_isNone p0), .int (0 : Int32)]) (rest := []) (cl := RX2) C (c_X2_refuses l G b T (fX2_isNone p0) (0 : Int32)) F_X2_refuses rfl bw1219 bw1221 bw33 (hE.S hS hAB) hP hD hS hA hAB (rv4 hE.K hP (q0 := 0) rfl) hl.1 dX2_plusMonths_6 ⟨Nat.le_of_ble_eq_true rfl, Nat.le_of_ble_eq_true rfl⟩ rfl (Nat.le_of_ble_eq_true rfl) ⟨Nat.le_of_ble_eq_true rfl, Nat.le_of_ble_eq_true rfl⟩ (fun H locs hP hD hS => ?_)
  have hP : va_P (gD G) vwCl (wM G b ((fth (fX2_isNone p0) (0 : Int32)), (my T), (mm T), (md T), (mt T), (T.2.2.2.2.2))) H := hP
  have hD : va_D A (wM G b ((fth (fX2_isNone p0) (0 : Int32)), (my T), (mm T), (md T), (mt T), (T.2.2.2.2.2))) := hD
  refine lv_if_eq (tgt := 16) hx hb dX2_plusMonths_9 (by decide) (fun c_1 => ?_) (fun c_1 => ?_)
  · have c_1 := rf_p c_1
    refine lv_aload_n hx hb dX2_plusMonths_16 rfl (lv_at hl 0 rfl) ?_
    refine lv_iload_n hx hb dX2_plusMonths_17 rfl (lv_at hl 1 rfl) ?_
    refine lv_iload_n hx hb dX2_plusMonths_18 rfl (lv_at hl 2 rfl) ?_
    refine lv_i2l (v := (p1.toInt64)) hx hb dX2_plusMonths_19 (by first | rfl | decide) ?_
    refine wcVi (as := [.int p0, .long (p1.toInt64)]) (rest := []) (cl := RX2) C (c_X2_onMonths l G b ((fth (fX2_isNone p0) (0 : Int32)), (my T), (mm T), (md T), (mt T), (T.2.2.2.2.2)) p0 (p1.toInt64) (none_in (frf_a c_1)) (MO.same hT rfl)) F_X2_onMonths rfl bw1369 bw1371 bw42 (hE.S hS hAB) hP hD hS hA hAB (rv4 hE.K hP (q0 := 0) rfl) hl.1 dX2_plusMonths_20 ⟨Nat.le_of_ble_eq_true rfl, Nat.le_of_ble_eq_true rfl⟩ rfl (Nat.le_of_ble_eq_true rfl) ⟨Nat.le_of_ble_eq_true rfl, Nat.le_of_ble_eq_true rfl⟩ (fun H locs hP hD hS => ?_)
    exact we_i (wf := wM G b) hx hb hr hk hP hD hS (Nat.le_of_ble_eq_true rfl) (Nat.le_of_ble_eq_true rfl) dX2_plusMonths_23 (if_pos c_1)
  · have c_1 := rf_n c_1
    refine lv_iconst (v := (0 : Int32)) hx hb dX2_plusMonths_12 qi_0 ?_
    refine lv_goto (tgt := 23) hx hb dX2_plusMonths_13 (by decide) ?_
    exact we_i (wf := wM G b) hx hb hr hk hP hD hS (Nat.le_of_ble_eq_true rfl) (Nat.le_of_ble_eq_true rfl) dX2_plusMonths_23 (if_neg c_1)

set_option maxRecDepth 100000 in
set_option maxHeartbeats 4000000 in
theorem c_X2_minusMonths (l : Launch) (G : GT) (b : Nat → Nat) (T : SM) (p0 : Int32) (p1 : Int32) (hT : MO T) : WR l G yX2_minusMonths cX2_minusMonths 3 (some .int) 12 0 0 [.ref (b 0), .int p0, .int p1] (wM G b T) (wM G b (gX2_minusMonths T p0 p1).2) (some (.int (gX2_minusMonths T p0 p1).1)) := by
  refine WR.ofW (own := RX2) rfl (plainFor_of_name pnN_RX2) (Nat.le_of_ble_eq_true rfl) ?_
  intro p e s m below meth c A C hr hk hnm hE hP hD hA hAB hS ls hl
  have hx := C.1
  have hb := C.2.1
  have hown := C.2.2.2.1
  have hw := C.2.2.2.2
  have hl : lv_has ls 3 [(0, .ref (b 0)), (1, .int p0), (2, .int p1)] := hl
  refine lv_aload_n hx hb dX2_minusMonths_0 rfl (lv_at hl 0 rfl) ?_
  refine lv_iload_n hx hb dX2_minusMonths_1 rfl (lv_at hl 1 rfl) ?_
  refine rcSi (as := [.int p0]) (rest := [.ref (b 0)]) C (c_X2_isNone l G p0) F_X2_isNone rfl bw1216 bw1217 (hE.S hS hAB) vpn hl.1 dX2_minusMonths_2 ⟨Nat.le_of_ble_eq_true rfl, Nat.le_of_ble_eq_true rfl⟩ rfl (Nat.le_of_ble_eq_true rfl) ⟨Nat.le_of_ble_eq_true rfl, Nat.le_of_ble_eq_true rfl⟩ ?_
  refine lv_iconst (v := (0 : Int32)) hx hb dX2_minusMonths_5 qi_0 ?_
  refine wcVi (as := [.int (fX2_isNone p0), .int (0 : Int32)]) (rest := []) (cl := RX2) C (c_X2_refuses l G b T (fX2_isNone p0) (0 : Int32)) F_X2_refuses rfl bw1219 bw1221 bw33 (hE.S hS hAB) hP hD hS hA hAB (rv4 hE.K hP (q0 := 0) rfl) hl.1 dX2_minusMonths_6 ⟨Nat.le_of_ble_eq_true rfl, Nat.le_of_ble_eq_true rfl⟩ rfl (Nat.le_of_ble_eq_true rfl) ⟨Nat.le_of_ble_eq_true rfl, Nat.le_of_ble_eq_true rfl⟩ (fun H locs hP hD hS => ?_)
  have hP : va_P (gD G) vwCl (wM G b ((fth (fX2_isNone p0) (0 : Int32)), (my T), (mm T), (md T), (mt T), (T.2.2.2.2.2))) H := hP
  have hD : va_D A (wM G b ((fth (fX2_isNone p0) (0 : Int32)), (my T), (mm T), (md T), (mt T), (T.2.2.2.2.2))) := hD
  refine lv_if_eq (tgt := 16) hx hb dX2_minusMonths_9 (by decide) (fun c_1 => ?_) (fun c_1 => ?_)
  · have c_1 := rf_p c_1
    refine lv_aload_n hx hb dX2_minusMonths_16 rfl (lv_at hl 0 rfl) ?_
    refine lv_iload_n hx hb dX2_minusMonths_17 rfl (lv_at hl 1 rfl) ?_
    refine lv_iload_n hx hb dX2_minusMonths_18 rfl (lv_at hl 2 rfl) ?_
    refine lv_i2l (v := (p1.toInt64)) hx hb dX2_minusMonths_19 (by first | rfl | decide) ?_
    refine lv_lneg hx hb dX2_minusMonths_20 ?_
    refine wcVi (as := [.int p0, .long (-(p1.toInt64))]) (rest := []) (cl := RX2) C (c_X2_onMonths l G b ((fth (fX2_isNone p0) (0 : Int32)), (my T), (mm T), (md T), (mt T), (T.2.2.2.2.2)) p0 (-(p1.toInt64)) (none_in (frf_a c_1)) (MO.same hT rfl)) F_X2_onMonths rfl bw1369 bw1371 bw42 (hE.S hS hAB) hP hD hS hA hAB (rv4 hE.K hP (q0 := 0) rfl) hl.1 dX2_minusMonths_21 ⟨Nat.le_of_ble_eq_true rfl, Nat.le_of_ble_eq_true rfl⟩ rfl (Nat.le_of_ble_eq_true rfl) ⟨Nat.le_of_ble_eq_true rfl, Nat.le_of_ble_eq_true rfl⟩ (fun H locs hP hD hS => ?_)
    exact we_i (wf := wM G b) hx hb hr hk hP hD hS (Nat.le_of_ble_eq_true rfl) (Nat.le_of_ble_eq_true rfl) dX2_minusMonths_24 (if_pos c_1)
  · have c_1 := rf_n c_1
    refine lv_iconst (v := (0 : Int32)) hx hb dX2_minusMonths_12 qi_0 ?_
    refine lv_goto (tgt := 24) hx hb dX2_minusMonths_13 (by decide) ?_
    exact we_i (wf := wM G b) hx hb hr hk hP hD hS (Nat.le_of_ble_eq_true rfl) (Nat.le_of_ble_eq_true rfl) dX2_minusMonths_24 (if_neg c_1)

set_option maxRecDepth 100000 in
set_option maxHeartbeats 4000000 in
theorem c_X2_plusWeeks (l : Launch) (G : GT) (b : Nat → Nat) (T : SM) (p0 : Int32) (p1 : Int32) (hT : MO T) : WR l G yX2_plusWeeks cX2_plusWeeks 3 (some .int) 12 1 3 [.ref (b 0), .int p0, .int p1] (wM G b T) (wM G b (gX2_plusWeeks T p0 p1).2) (some (.int (gX2_plusWeeks T p0 p1).1)) := by
  refine WR.ofW (own := RX2) rfl (plainFor_of_name pnN_RX2) (Nat.le_of_ble_eq_true rfl) ?_
  intro p e s m below meth c A C hr hk hnm hE hP hD hA hAB hS ls hl
  have hx := C.1
  have hb := C.2.1
  have hown := C.2.2.2.1
  have hw := C.2.2.2.2
  have hl : lv_has ls 3 [(0, .ref (b 0)), (1, .int p0), (2, .int p1)] := hl
  refine lv_aload_n hx hb dX2_plusWeeks_0 rfl (lv_at hl 0 rfl) ?_
  refine lv_iload_n hx hb dX2_plusWeeks_1 rfl (lv_at hl 1 rfl) ?_
  refine rcSi (as := [.int p0]) (rest := [.ref (b 0)]) C (c_X2_isNone l G p0) F_X2_isNone rfl bw1216 bw1217 (hE.S hS hAB) vpn hl.1 dX2_plusWeeks_2 ⟨Nat.le_of_ble_eq_true rfl, Nat.le_of_ble_eq_true rfl⟩ rfl (Nat.le_of_ble_eq_true rfl) ⟨Nat.le_of_ble_eq_true rfl, Nat.le_of_ble_eq_true rfl⟩ ?_
  refine lv_iconst (v := (0 : Int32)) hx hb dX2_plusWeeks_5 qi_0 ?_
  refine wcVi (as := [.int (fX2_isNone p0), .int (0 : Int32)]) (rest := []) (cl := RX2) C (c_X2_refuses l G b T (fX2_isNone p0) (0 : Int32)) F_X2_refuses rfl bw1219 bw1221 bw33 (hE.S hS hAB) hP hD hS hA hAB (rv4 hE.K hP (q0 := 0) rfl) hl.1 dX2_plusWeeks_6 ⟨Nat.le_of_ble_eq_true rfl, Nat.le_of_ble_eq_true rfl⟩ rfl (Nat.le_of_ble_eq_true rfl) ⟨Nat.le_of_ble_eq_true rfl, Nat.le_of_ble_eq_true rfl⟩ (fun H locs hP hD hS => ?_)
  have hP : va_P (gD G) vwCl (wM G b ((fth (fX2_isNone p0) (0 : Int32)), (my T), (mm T), (md T), (mt T), (T.2.2.2.2.2))) H := hP
  have hD : va_D A (wM G b ((fth (fX2_isNone p0) (0 : Int32)), (my T), (mm T), (md T), (mt T), (T.2.2.2.2.2))) := hD
  refine lv_if_eq (tgt := 16) hx hb dX2_plusWeeks_9 (by decide) (fun c_1 => ?_) (fun c_1 => ?_)
  · have c_1 := rf_p c_1
    refine lv_aload_n hx hb dX2_plusWeeks_16 rfl (lv_at hl 0 rfl) ?_
    refine lv_iload_n hx hb dX2_plusWeeks_17 rfl (lv_at hl 1 rfl) ?_
    refine lv_ldc2 (v := (7 : Int64)) hx hb hown (hw _ bw1274) dX2_plusWeeks_18 ?_
    refine lv_iload_n hx hb dX2_plusWeeks_21 rfl (lv_at hl 2 rfl) ?_
    refine lv_i2l (v := (p1.toInt64)) hx hb dX2_plusWeeks_22 (by first | rfl | decide) ?_
    refine lv_lmul hx hb dX2_plusWeeks_23 ?_
    refine lv_ldc2 (v := (86400000000000 : Int64)) hx hb hown (hw _ bw1360) dX2_plusWeeks_24 ?_
    refine wcVi (as := [.int p0, .long ((7 : Int64) * (p1.toInt64)), .long (86400000000000 : Int64)]) (rest := []) (cl := RX2) C (c_X2_onLine l G b ((fth (fX2_isNone p0) (0 : Int32)), (my T), (mm T), (md T), (mt T), (T.2.2.2.2.2)) p0 ((7 : Int64) * (p1.toInt64)) (86400000000000 : Int64) (none_in (frf_a c_1)) (MO.same hT rfl) (by decide) (by decide)) F_X2_onLine rfl bw1381 bw1383 bw43 (hE.S hS hAB) hP hD hS hA hAB (rv4 hE.K hP (q0 := 0) rfl) hl.1 dX2_plusWeeks_27 ⟨Nat.le_of_ble_eq_true rfl, Nat.le_of_ble_eq_true rfl⟩ rfl (Nat.le_of_ble_eq_true rfl) ⟨Nat.le_of_ble_eq_true rfl, Nat.le_of_ble_eq_true rfl⟩ (fun H locs hP hD hS => ?_)
    exact we_i (wf := wM G b) hx hb hr hk hP hD hS (Nat.le_of_ble_eq_true rfl) (Nat.le_of_ble_eq_true rfl) dX2_plusWeeks_30 (if_pos c_1)
  · have c_1 := rf_n c_1
    refine lv_iconst (v := (0 : Int32)) hx hb dX2_plusWeeks_12 qi_0 ?_
    refine lv_goto (tgt := 30) hx hb dX2_plusWeeks_13 (by decide) ?_
    exact we_i (wf := wM G b) hx hb hr hk hP hD hS (Nat.le_of_ble_eq_true rfl) (Nat.le_of_ble_eq_true rfl) dX2_plusWeeks_30 (if_neg c_1)

set_option maxRecDepth 100000 in
set_option maxHeartbeats 4000000 in
theorem c_X2_minusWeeks (l : Launch) (G : GT) (b : Nat → Nat) (T : SM) (p0 : Int32) (p1 : Int32) (hT : MO T) : WR l G yX2_minusWeeks cX2_minusWeeks 3 (some .int) 12 1 3 [.ref (b 0), .int p0, .int p1] (wM G b T) (wM G b (gX2_minusWeeks T p0 p1).2) (some (.int (gX2_minusWeeks T p0 p1).1)) := by
  refine WR.ofW (own := RX2) rfl (plainFor_of_name pnN_RX2) (Nat.le_of_ble_eq_true rfl) ?_
  intro p e s m below meth c A C hr hk hnm hE hP hD hA hAB hS ls hl
  have hx := C.1
  have hb := C.2.1
  have hown := C.2.2.2.1
  have hw := C.2.2.2.2
  have hl : lv_has ls 3 [(0, .ref (b 0)), (1, .int p0), (2, .int p1)] := hl
  refine lv_aload_n hx hb dX2_minusWeeks_0 rfl (lv_at hl 0 rfl) ?_
  refine lv_iload_n hx hb dX2_minusWeeks_1 rfl (lv_at hl 1 rfl) ?_
  refine rcSi (as := [.int p0]) (rest := [.ref (b 0)]) C (c_X2_isNone l G p0) F_X2_isNone rfl bw1216 bw1217 (hE.S hS hAB) vpn hl.1 dX2_minusWeeks_2 ⟨Nat.le_of_ble_eq_true rfl, Nat.le_of_ble_eq_true rfl⟩ rfl (Nat.le_of_ble_eq_true rfl) ⟨Nat.le_of_ble_eq_true rfl, Nat.le_of_ble_eq_true rfl⟩ ?_
  refine lv_iconst (v := (0 : Int32)) hx hb dX2_minusWeeks_5 qi_0 ?_
  refine wcVi (as := [.int (fX2_isNone p0), .int (0 : Int32)]) (rest := []) (cl := RX2) C (c_X2_refuses l G b T (fX2_isNone p0) (0 : Int32)) F_X2_refuses rfl bw1219 bw1221 bw33 (hE.S hS hAB) hP hD hS hA hAB (rv4 hE.K hP (q0 := 0) rfl) hl.1 dX2_minusWeeks_6 ⟨Nat.le_of_ble_eq_true rfl, Nat.le_of_ble_eq_true rfl⟩ rfl (Nat.le_of_ble_eq_true rfl) ⟨Nat.le_of_ble_eq_true rfl, Nat.le_of_ble_eq_true rfl⟩ (fun H locs hP hD hS => ?_)
  have hP : va_P (gD G) vwCl (wM G b ((fth (fX2_isNone p0) (0 : Int32)), (my T), (mm T), (md T), (mt T), (T.2.2.2.2.2))) H := hP
  have hD : va_D A (wM G b ((fth (fX2_isNone p0) (0 : Int32)), (my T), (mm T), (md T), (mt T), (T.2.2.2.2.2))) := hD
  refine lv_if_eq (tgt := 16) hx hb dX2_minusWeeks_9 (by decide) (fun c_1 => ?_) (fun c_1 => ?_)
  · have c_1 := rf_p c_1
    refine lv_aload_n hx hb dX2_minusWeeks_16 rfl (lv_at hl 0 rfl) ?_
    refine lv_iload_n hx hb dX2_minusWeeks_17 rfl (lv_at hl 1 rfl) ?_
    refine lv_ldc2 (v := (-7 : Int64)) hx hb hown (hw _ bw1414) dX2_minusWeeks_18 ?_
    refine lv_iload_n hx hb dX2_minusWeeks_21 rfl (lv_at hl 2 rfl) ?_
    refine lv_i2l (v := (p1.toInt64)) hx hb dX2_minusWeeks_22 (by first | rfl | decide) ?_
    refine lv_lmul hx hb dX2_minusWeeks_23 ?_
    refine lv_ldc2 (v := (86400000000000 : Int64)) hx hb hown (hw _ bw1360) dX2_minusWeeks_24 ?_
    refine wcVi (as := [.int p0, .long ((-7 : Int64) * (p1.toInt64)), .long (86400000000000 : Int64)]) (rest := []) (cl := RX2) C (c_X2_onLine l G b ((fth (fX2_isNone p0) (0 : Int32)), (my T), (mm T), (md T), (mt T), (T.2.2.2.2.2)) p0 ((-7 : Int64) * (p1.toInt64)) (86400000000000 : Int64) (none_in (frf_a c_1)) (MO.same hT rfl) (by decide) (by decide)) F_X2_onLine rfl bw1381 bw1383 bw43 (hE.S hS hAB) hP hD hS hA hAB (rv4 hE.K hP (q0 := 0) rfl) hl.1 dX2_minusWeeks_27 ⟨Nat.le_of_ble_eq_true rfl, Nat.le_of_ble_eq_true rfl⟩ rfl (Nat.le_of_ble_eq_true rfl) ⟨Nat.le_of_ble_eq_true rfl, Nat.le_of_ble_eq_true rfl⟩ (fun H locs hP hD hS => ?_)
    exact we_i (wf := wM G b) hx hb hr hk hP hD hS (Nat.le_of_ble_eq_true rfl) (Nat.le_of_ble_eq_true rfl) dX2_minusWeeks_30 (if_pos c_1)
  · have c_1 := rf_n c_1
    refine lv_iconst (v := (0 : Int32)) hx hb dX2_minusWeeks_12 qi_0 ?_
    refine lv_goto (tgt := 30) hx hb dX2_minusWeeks_13 (by decide) ?_
    exact we_i (wf := wM G b) hx hb hr hk hP hD hS (Nat.le_of_ble_eq_true rfl) (Nat.le_of_ble_eq_true rfl) dX2_minusWeeks_30 (if_neg c_1)

set_option maxRecDepth 100000 in
set_option maxHeartbeats 4000000 in
theorem c_X2_plusDays (l : Launch) (G : GT) (b : Nat → Nat) (T : SM) (p0 : Int32) (p1 : Int32) (hT : MO T) : WR l G yX2_plusDays cX2_plusDays 3 (some .int) 12 1 3 [.ref (b 0), .int p0, .int p1] (wM G b T) (wM G b (gX2_plusDays T p0 p1).2) (some (.int (gX2_plusDays T p0 p1).1)) := by
  refine WR.ofW (own := RX2) rfl (plainFor_of_name pnN_RX2) (Nat.le_of_ble_eq_true rfl) ?_
  intro p e s m below meth c A C hr hk hnm hE hP hD hA hAB hS ls hl
  have hx := C.1
  have hb := C.2.1
  have hown := C.2.2.2.1
  have hw := C.2.2.2.2
  have hl : lv_has ls 3 [(0, .ref (b 0)), (1, .int p0), (2, .int p1)] := hl
  refine lv_aload_n hx hb dX2_plusDays_0 rfl (lv_at hl 0 rfl) ?_
  refine lv_iload_n hx hb dX2_plusDays_1 rfl (lv_at hl 1 rfl) ?_
  refine rcSi (as := [.int p0]) (rest := [.ref (b 0)]) C (c_X2_isNone l G p0) F_X2_isNone rfl bw1216 bw1217 (hE.S hS hAB) vpn hl.1 dX2_plusDays_2 ⟨Nat.le_of_ble_eq_true rfl, Nat.le_of_ble_eq_true rfl⟩ rfl (Nat.le_of_ble_eq_true rfl) ⟨Nat.le_of_ble_eq_true rfl, Nat.le_of_ble_eq_true rfl⟩ ?_
  refine lv_iconst (v := (0 : Int32)) hx hb dX2_plusDays_5 qi_0 ?_
  refine wcVi (as := [.int (fX2_isNone p0), .int (0 : Int32)]) (rest := []) (cl := RX2) C (c_X2_refuses l G b T (fX2_isNone p0) (0 : Int32)) F_X2_refuses rfl bw1219 bw1221 bw33 (hE.S hS hAB) hP hD hS hA hAB (rv4 hE.K hP (q0 := 0) rfl) hl.1 dX2_plusDays_6 ⟨Nat.le_of_ble_eq_true rfl, Nat.le_of_ble_eq_true rfl⟩ rfl (Nat.le_of_ble_eq_true rfl) ⟨Nat.le_of_ble_eq_true rfl, Nat.le_of_ble_eq_true rfl⟩ (fun H locs hP hD hS => ?_)
  have hP : va_P (gD G) vwCl (wM G b ((fth (fX2_isNone p0) (0 : Int32)), (my T), (mm T), (md T), (mt T), (T.2.2.2.2.2))) H := hP
  have hD : va_D A (wM G b ((fth (fX2_isNone p0) (0 : Int32)), (my T), (mm T), (md T), (mt T), (T.2.2.2.2.2))) := hD
  refine lv_if_eq (tgt := 16) hx hb dX2_plusDays_9 (by decide) (fun c_1 => ?_) (fun c_1 => ?_)
  · have c_1 := rf_p c_1
    refine lv_aload_n hx hb dX2_plusDays_16 rfl (lv_at hl 0 rfl) ?_
    refine lv_iload_n hx hb dX2_plusDays_17 rfl (lv_at hl 1 rfl) ?_
    refine lv_iload_n hx hb dX2_plusDays_18 rfl (lv_at hl 2 rfl) ?_
    refine lv_i2l (v := (p1.toInt64)) hx hb dX2_plusDays_19 (by first | rfl | decide) ?_
    refine lv_ldc2 (v := (86400000000000 : Int64)) hx hb hown (hw _ bw1360) dX2_plusDays_20 ?_
    refine wcVi (as := [.int p0, .long (p1.toInt64), .long (86400000000000 : Int64)]) (rest := []) (cl := RX2) C (c_X2_onLine l G b ((fth (fX2_isNone p0) (0 : Int32)), (my T), (mm T), (md T), (mt T), (T.2.2.2.2.2)) p0 (p1.toInt64) (86400000000000 : Int64) (none_in (frf_a c_1)) (MO.same hT rfl) (by decide) (by decide)) F_X2_onLine rfl bw1381 bw1383 bw43 (hE.S hS hAB) hP hD hS hA hAB (rv4 hE.K hP (q0 := 0) rfl) hl.1 dX2_plusDays_23 ⟨Nat.le_of_ble_eq_true rfl, Nat.le_of_ble_eq_true rfl⟩ rfl (Nat.le_of_ble_eq_true rfl) ⟨Nat.le_of_ble_eq_true rfl, Nat.le_of_ble_eq_true rfl⟩ (fun H locs hP hD hS => ?_)
    exact we_i (wf := wM G b) hx hb hr hk hP hD hS (Nat.le_of_ble_eq_true rfl) (Nat.le_of_ble_eq_true rfl) dX2_plusDays_26 (if_pos c_1)
  · have c_1 := rf_n c_1
    refine lv_iconst (v := (0 : Int32)) hx hb dX2_plusDays_12 qi_0 ?_
    refine lv_goto (tgt := 26) hx hb dX2_plusDays_13 (by decide) ?_
    exact we_i (wf := wM G b) hx hb hr hk hP hD hS (Nat.le_of_ble_eq_true rfl) (Nat.le_of_ble_eq_true rfl) dX2_plusDays_26 (if_neg c_1)

set_option maxRecDepth 100000 in
set_option maxHeartbeats 4000000 in
theorem c_X2_minusDays (l : Launch) (G : GT) (b : Nat → Nat) (T : SM) (p0 : Int32) (p1 : Int32) (hT : MO T) : WR l G yX2_minusDays cX2_minusDays 3 (some .int) 12 1 3 [.ref (b 0), .int p0, .int p1] (wM G b T) (wM G b (gX2_minusDays T p0 p1).2) (some (.int (gX2_minusDays T p0 p1).1)) := by
  refine WR.ofW (own := RX2) rfl (plainFor_of_name pnN_RX2) (Nat.le_of_ble_eq_true rfl) ?_
  intro p e s m below meth c A C hr hk hnm hE hP hD hA hAB hS ls hl
  have hx := C.1
  have hb := C.2.1
  have hown := C.2.2.2.1
  have hw := C.2.2.2.2
  have hl : lv_has ls 3 [(0, .ref (b 0)), (1, .int p0), (2, .int p1)] := hl
  refine lv_aload_n hx hb dX2_minusDays_0 rfl (lv_at hl 0 rfl) ?_
  refine lv_iload_n hx hb dX2_minusDays_1 rfl (lv_at hl 1 rfl) ?_
  refine rcSi (as := [.int p0]) (rest := [.ref (b 0)]) C (c_X2_isNone l G p0) F_X2_isNone rfl bw1216 bw1217 (hE.S hS hAB) vpn hl.1 dX2_minusDays_2 ⟨Nat.le_of_ble_eq_true rfl, Nat.le_of_ble_eq_true rfl⟩ rfl (Nat.le_of_ble_eq_true rfl) ⟨Nat.le_of_ble_eq_true rfl, Nat.le_of_ble_eq_true rfl⟩ ?_
  refine lv_iconst (v := (0 : Int32)) hx hb dX2_minusDays_5 qi_0 ?_
  refine wcVi (as := [.int (fX2_isNone p0), .int (0 : Int32)]) (rest := []) (cl := RX2) C (c_X2_refuses l G b T (fX2_isNone p0) (0 : Int32)) F_X2_refuses rfl bw1219 bw1221 bw33 (hE.S hS hAB) hP hD hS hA hAB (rv4 hE.K hP (q0 := 0) rfl) hl.1 dX2_minusDays_6 ⟨Nat.le_of_ble_eq_true rfl, Nat.le_of_ble_eq_true rfl⟩ rfl (Nat.le_of_ble_eq_true rfl) ⟨Nat.le_of_ble_eq_true rfl, Nat.le_of_ble_eq_true rfl⟩ (fun H locs hP hD hS => ?_)
  have hP : va_P (gD G) vwCl (wM G b ((fth (fX2_isNone p0) (0 : Int32)), (my T), (mm T), (md T), (mt T), (T.2.2.2.2.2))) H := hP
  have hD : va_D A (wM G b ((fth (fX2_isNone p0) (0 : Int32)), (my T), (mm T), (md T), (mt T), (T.2.2.2.2.2))) := hD
  refine lv_if_eq (tgt := 16) hx hb dX2_minusDays_9 (by decide) (fun c_1 => ?_) (fun c_1 => ?_)
  · have c_1 := rf_p c_1
    refine lv_aload_n hx hb dX2_minusDays_16 rfl (lv_at hl 0 rfl) ?_
    refine lv_iload_n hx hb dX2_minusDays_17 rfl (lv_at hl 1 rfl) ?_
    refine lv_iload_n hx hb dX2_minusDays_18 rfl (lv_at hl 2 rfl) ?_
    refine lv_i2l (v := (p1.toInt64)) hx hb dX2_minusDays_19 (by first | rfl | decide) ?_
    refine lv_lneg hx hb dX2_minusDays_20 ?_
    refine lv_ldc2 (v := (86400000000000 : Int64)) hx hb hown (hw _ bw1360) dX2_minusDays_21 ?_
    refine wcVi (as := [.int p0, .long (-(p1.toInt64)), .long (86400000000000 : Int64)]) (rest := []) (cl := RX2) C (c_X2_onLine l G b ((fth (fX2_isNone p0) (0 : Int32)), (my T), (mm T), (md T), (mt T), (T.2.2.2.2.2)) p0 (-(p1.toInt64)) (86400000000000 : Int64) (none_in (frf_a c_1)) (MO.same hT rfl) (by decide) (by decide)) F_X2_onLine rfl bw1381 bw1383 bw43 (hE.S hS hAB) hP hD hS hA hAB (rv4 hE.K hP (q0 := 0) rfl) hl.1 dX2_minusDays_24 ⟨Nat.le_of_ble_eq_true rfl, Nat.le_of_ble_eq_true rfl⟩ rfl (Nat.le_of_ble_eq_true rfl) ⟨Nat.le_of_ble_eq_true rfl, Nat.le_of_ble_eq_true rfl⟩ (fun H locs hP hD hS => ?_)
    exact we_i (wf := wM G b) hx hb hr hk hP hD hS (Nat.le_of_ble_eq_true rfl) (Nat.le_of_ble_eq_true rfl) dX2_minusDays_27 (if_pos c_1)
  · have c_1 := rf_n c_1
    refine lv_iconst (v := (0 : Int32)) hx hb dX2_minusDays_12 qi_0 ?_
    refine lv_goto (tgt := 27) hx hb dX2_minusDays_13 (by decide) ?_
    exact we_i (wf := wM G b) hx hb hr hk hP hD hS (Nat.le_of_ble_eq_true rfl) (Nat.le_of_ble_eq_true rfl) dX2_minusDays_27 (if_neg c_1)

set_option maxRecDepth 100000 in
set_option maxHeartbeats 4000000 in
theorem c_X2_plusHours (l : Launch) (G : GT) (b : Nat → Nat) (T : SM) (p0 : Int32) (p1 : Int32) (hT : MO T) : WR l G yX2_plusHours cX2_plusHours 3 (some .int) 12 1 3 [.ref (b 0), .int p0, .int p1] (wM G b T) (wM G b (gX2_plusHours T p0 p1).2) (some (.int (gX2_plusHours T p0 p1).1)) := by
  refine WR.ofW (own := RX2) rfl (plainFor_of_name pnN_RX2) (Nat.le_of_ble_eq_true rfl) ?_
  intro p e s m below meth c A C hr hk hnm hE hP hD hA hAB hS ls hl
  have hx := C.1
  have hb := C.2.1
  have hown := C.2.2.2.1
  have hw := C.2.2.2.2
  have hl : lv_has ls 3 [(0, .ref (b 0)), (1, .int p0), (2, .int p1)] := hl
  refine lv_aload_n hx hb dX2_plusHours_0 rfl (lv_at hl 0 rfl) ?_
  refine lv_iload_n hx hb dX2_plusHours_1 rfl (lv_at hl 1 rfl) ?_
  refine rcSi (as := [.int p0]) (rest := [.ref (b 0)]) C (c_X2_isNone l G p0) F_X2_isNone rfl bw1216 bw1217 (hE.S hS hAB) vpn hl.1 dX2_plusHours_2 ⟨Nat.le_of_ble_eq_true rfl, Nat.le_of_ble_eq_true rfl⟩ rfl (Nat.le_of_ble_eq_true rfl) ⟨Nat.le_of_ble_eq_true rfl, Nat.le_of_ble_eq_true rfl⟩ ?_
  refine lv_iconst (v := (0 : Int32)) hx hb dX2_plusHours_5 qi_0 ?_
  refine wcVi (as := [.int (fX2_isNone p0), .int (0 : Int32)]) (rest := []) (cl := RX2) C (c_X2_refuses l G b T (fX2_isNone p0) (0 : Int32)) F_X2_refuses rfl bw1219 bw1221 bw33 (hE.S hS hAB) hP hD hS hA hAB (rv4 hE.K hP (q0 := 0) rfl) hl.1 dX2_plusHours_6 ⟨Nat.le_of_ble_eq_true rfl, Nat.le_of_ble_eq_true rfl⟩ rfl (Nat.le_of_ble_eq_true rfl) ⟨Nat.le_of_ble_eq_true rfl, Nat.le_of_ble_eq_true rfl⟩ (fun H locs hP hD hS => ?_)
  have hP : va_P (gD G) vwCl (wM G b ((fth (fX2_isNone p0) (0 : Int32)), (my T), (mm T), (md T), (mt T), (T.2.2.2.2.2))) H := hP
  have hD : va_D A (wM G b ((fth (fX2_isNone p0) (0 : Int32)), (my T), (mm T), (md T), (mt T), (T.2.2.2.2.2))) := hD
  refine lv_if_eq (tgt := 16) hx hb dX2_plusHours_9 (by decide) (fun c_1 => ?_) (fun c_1 => ?_)
  · have c_1 := rf_p c_1
    refine lv_aload_n hx hb dX2_plusHours_16 rfl (lv_at hl 0 rfl) ?_
    refine lv_iload_n hx hb dX2_plusHours_17 rfl (lv_at hl 1 rfl) ?_
    refine lv_iload_n hx hb dX2_plusHours_18 rfl (lv_at hl 2 rfl) ?_
    refine lv_i2l (v := (p1.toInt64)) hx hb dX2_plusHours_19 (by first | rfl | decide) ?_
    refine lv_iconst (v := (5 : Int32)) hx hb dX2_plusHours_20 qi_5 ?_
    refine rcSl (as := [.int (5 : Int32)]) (rest := [.long (p1.toInt64), .int p0, .ref (b 0)]) C (c_X2_nanosOf l G (5 : Int32)) F_X2_nanosOf rfl bw1354 bw1355 (hE.S hS hAB) vpn hl.1 dX2_plusHours_21 ⟨Nat.le_of_ble_eq_true rfl, Nat.le_of_ble_eq_true rfl⟩ rfl (Nat.le_of_ble_eq_true rfl) ⟨Nat.le_of_ble_eq_true rfl, Nat.le_of_ble_eq_true rfl⟩ ?_
    refine wcVi (as := [.int p0, .long (p1.toInt64), .long (fX2_nanosOf (5 : Int32))]) (rest := []) (cl := RX2) C (c_X2_onLine l G b ((fth (fX2_isNone p0) (0 : Int32)), (my T), (mm T), (md T), (mt T), (T.2.2.2.2.2)) p0 (p1.toInt64) (fX2_nanosOf (5 : Int32)) (none_in (frf_a c_1)) (MO.same hT rfl) (nz_nanosOf (5 : Int32)) (by decide)) F_X2_onLine rfl bw1381 bw1383 bw43 (hE.S hS hAB) hP hD hS hA hAB (rv4 hE.K hP (q0 := 0) rfl) hl.1 dX2_plusHours_24 ⟨Nat.le_of_ble_eq_true rfl, Nat.le_of_ble_eq_true rfl⟩ rfl (Nat.le_of_ble_eq_true rfl) ⟨Nat.le_of_ble_eq_true rfl, Nat.le_of_ble_eq_true rfl⟩ (fun H locs hP hD hS => ?_)
    exact we_i (wf := wM G b) hx hb hr hk hP hD hS (Nat.le_of_ble_eq_true rfl) (Nat.le_of_ble_eq_true rfl) dX2_plusHours_27 (if_pos c_1)
  · have c_1 := rf_n c_1
    refine lv_iconst (v := (0 : Int32)) hx hb dX2_plusHours_12 qi_0 ?_
    refine lv_goto (tgt := 27) hx hb dX2_plusHours_13 (by decide) ?_
    exact we_i (wf := wM G b) hx hb hr hk hP hD hS (Nat.le_of_ble_eq_true rfl) (Nat.le_of_ble_eq_true rfl) dX2_plusHours_27 (if_neg c_1)

set_option maxRecDepth 100000 in
set_option maxHeartbeats 4000000 in
theorem c_X2_minusHours (l : Launch) (G : GT) (b : Nat → Nat) (T : SM) (p0 : Int32) (p1 : Int32) (hT : MO T) : WR l G yX2_minusHours cX2_minusHours 3 (some .int) 12 1 3 [.ref (b 0), .int p0, .int p1] (wM G b T) (wM G b (gX2_minusHours T p0 p1).2) (some (.int (gX2_minusHours T p0 p1).1)) := by
  refine WR.ofW (own := RX2) rfl (plainFor_of_name pnN_RX2) (Nat.le_of_ble_eq_true rfl) ?_
  intro p e s m below meth c A C hr hk hnm hE hP hD hA hAB hS ls hl
  have hx := C.1
  have hb := C.2.1
  have hown := C.2.2.2.1
  have hw := C.2.2.2.2
  have hl : lv_has ls 3 [(0, .ref (b 0)), (1, .int p0), (2, .int p1)] := hl
  refine lv_aload_n hx hb dX2_minusHours_0 rfl (lv_at hl 0 rfl) ?_
  refine lv_iload_n hx hb dX2_minusHours_1 rfl (lv_at hl 1 rfl) ?_
  refine rcSi (as := [.int p0]) (rest := [.ref (b 0)]) C (c_X2_isNone l G p0) F_X2_isNone rfl bw1216 bw1217 (hE.S hS hAB) vpn hl.1 dX2_minusHours_2 ⟨Nat.le_of_ble_eq_true rfl, Nat.le_of_ble_eq_true rfl⟩ rfl (Nat.le_of_ble_eq_true rfl) ⟨Nat.le_of_ble_eq_true rfl, Nat.le_of_ble_eq_true rfl⟩ ?_
  refine lv_iconst (v := (0 : Int32)) hx hb dX2_minusHours_5 qi_0 ?_
  refine wcVi (as := [.int (fX2_isNone p0), .int (0 : Int32)]) (rest := []) (cl := RX2) C (c_X2_refuses l G b T (fX2_isNone p0) (0 : Int32)) F_X2_refuses rfl bw1219 bw1221 bw33 (hE.S hS hAB) hP hD hS hA hAB (rv4 hE.K hP (q0 := 0) rfl) hl.1 dX2_minusHours_6 ⟨Nat.le_of_ble_eq_true rfl, Nat.le_of_ble_eq_true rfl⟩ rfl (Nat.le_of_ble_eq_true rfl) ⟨Nat.le_of_ble_eq_true rfl, Nat.le_of_ble_eq_true rfl⟩ (fun H locs hP hD hS => ?_)
  have hP : va_P (gD G) vwCl (wM G b ((fth (fX2_isNone p0) (0 : Int32)), (my T), (mm T), (md T), (mt T), (T.2.2.2.2.2))) H := hP
  have hD : va_D A (wM G b ((fth (fX2_isNone p0) (0 : Int32)), (my T), (mm T), (md T), (mt T), (T.2.2.2.2.2))) := hD
  refine lv_if_eq (tgt := 16) hx hb dX2_minusHours_9 (by decide) (fun c_1 => ?_) (fun c_1 => ?_)
  · have c_1 := rf_p c_1
    refine lv_aload_n hx hb dX2_minusHours_16 rfl (lv_at hl 0 rfl) ?_
    refine lv_iload_n hx hb dX2_minusHours_17 rfl (lv_at hl 1 rfl) ?_
    refine lv_iload_n hx hb dX2_minusHours_18 rfl (lv_at hl 2 rfl) ?_
    refine lv_i2l (v := (p1.toInt64)) hx hb dX2_minusHours_19 (by first | rfl | decide) ?_
    refine lv_lneg hx hb dX2_minusHours_20 ?_
    refine lv_iconst (v := (5 : Int32)) hx hb dX2_minusHours_21 qi_5 ?_
    refine rcSl (as := [.int (5 : Int32)]) (rest := [.long (-(p1.toInt64)), .int p0, .ref (b 0)]) C (c_X2_nanosOf l G (5 : Int32)) F_X2_nanosOf rfl bw1354 bw1355 (hE.S hS hAB) vpn hl.1 dX2_minusHours_22 ⟨Nat.le_of_ble_eq_true rfl, Nat.le_of_ble_eq_true rfl⟩ rfl (Nat.le_of_ble_eq_true rfl) ⟨Nat.le_of_ble_eq_true rfl, Nat.le_of_ble_eq_true rfl⟩ ?_
    refine wcVi (as := [.int p0, .long (-(p1.toInt64)), .long (fX2_nanosOf (5 : Int32))]) (rest := []) (cl := RX2) C (c_X2_onLine l G b ((fth (fX2_isNone p0) (0 : Int32)), (my T), (mm T), (md T), (mt T), (T.2.2.2.2.2)) p0 (-(p1.toInt64)) (fX2_nanosOf (5 : Int32)) (none_in (frf_a c_1)) (MO.same hT rfl) (nz_nanosOf (5 : Int32)) (by decide)) F_X2_onLine rfl bw1381 bw1383 bw43 (hE.S hS hAB) hP hD hS hA hAB (rv4 hE.K hP (q0 := 0) rfl) hl.1 dX2_minusHours_25 ⟨Nat.le_of_ble_eq_true rfl, Nat.le_of_ble_eq_true rfl⟩ rfl (Nat.le_of_ble_eq_true rfl) ⟨Nat.le_of_ble_eq_true rfl, Nat.le_of_ble_eq_true rfl⟩ (fun H locs hP hD hS => ?_)
    exact we_i (wf := wM G b) hx hb hr hk hP hD hS (Nat.le_of_ble_eq_true rfl) (Nat.le_of_ble_eq_true rfl) dX2_minusHours_28 (if_pos c_1)
  · have c_1 := rf_n c_1
    refine lv_iconst (v := (0 : Int32)) hx hb dX2_minusHours_12 qi_0 ?_
    refine lv_goto (tgt := 28) hx hb dX2_minusHours_13 (by decide) ?_
    exact we_i (wf := wM G b) hx hb hr hk hP hD hS (Nat.le_of_ble_eq_true rfl) (Nat.le_of_ble_eq_true rfl) dX2_minusHours_28 (if_neg c_1)

set_option maxRecDepth 100000 in
set_option maxHeartbeats 4000000 in
theorem c_X2_plusMinutes (l : Launch) (G : GT) (b : Nat → Nat) (T : SM) (p0 : Int32) (p1 : Int32) (hT : MO T) : WR l G yX2_plusMinutes cX2_plusMinutes 3 (some .int) 12 1 3 [.ref (b 0), .int p0, .int p1] (wM G b T) (wM G b (gX2_plusMinutes T p0 p1).2) (some (.int (gX2_plusMinutes T p0 p1).1)) := by
  refine WR.ofW (own := RX2) rfl (plainFor_of_name pnN_RX2) (Nat.le_of_ble_eq_true rfl) ?_
  intro p e s m below meth c A C hr hk hnm hE hP hD hA hAB hS ls hl
  have hx := C.1
  have hb := C.2.1
  have hown := C.2.2.2.1
  have hw := C.2.2.2.2
  have hl : lv_has ls 3 [(0, .ref (b 0)), (1, .int p0), (2, .int p1)] := hl
  refine lv_aload_n hx hb dX2_plusMinutes_0 rfl (lv_at hl 0 rfl) ?_
  refine lv_iload_n hx hb dX2_plusMinutes_1 rfl (lv_at hl 1 rfl) ?_
  refine rcSi (as := [.int p0]) (rest := [.ref (b 0)]) C (c_X2_isNone l G p0) F_X2_isNone rfl bw1216 bw1217 (hE.S hS hAB) vpn hl.1 dX2_plusMinutes_2 ⟨Nat.le_of_ble_eq_true rfl, Nat.le_of_ble_eq_true rfl⟩ rfl (Nat.le_of_ble_eq_true rfl) ⟨Nat.le_of_ble_eq_true rfl, Nat.le_of_ble_eq_true rfl⟩ ?_
  refine lv_iconst (v := (0 : Int32)) hx hb dX2_plusMinutes_5 qi_0 ?_
  refine wcVi (as := [.int (fX2_isNone p0), .int (0 : Int32)]) (rest := []) (cl := RX2) C (c_X2_refuses l G b T (fX2_isNone p0) (0 : Int32)) F_X2_refuses rfl bw1219 bw1221 bw33 (hE.S hS hAB) hP hD hS hA hAB (rv4 hE.K hP (q0 := 0) rfl) hl.1 dX2_plusMinutes_6 ⟨Nat.le_of_ble_eq_true rfl, Nat.le_of_ble_eq_true rfl⟩ rfl (Nat.le_of_ble_eq_true rfl) ⟨Nat.le_of_ble_eq_true rfl, Nat.le_of_ble_eq_true rfl⟩ (fun H locs hP hD hS => ?_)
  have hP : va_P (gD G) vwCl (wM G b ((fth (fX2_isNone p0) (0 : Int32)), (my T), (mm T), (md T), (mt T), (T.2.2.2.2.2))) H := hP
  have hD : va_D A (wM G b ((fth (fX2_isNone p0) (0 : Int32)), (my T), (mm T), (md T), (mt T), (T.2.2.2.2.2))) := hD
  refine lv_if_eq (tgt := 16) hx hb dX2_plusMinutes_9 (by decide) (fun c_1 => ?_) (fun c_1 => ?_)
  · have c_1 := rf_p c_1
    refine lv_aload_n hx hb dX2_plusMinutes_16 rfl (lv_at hl 0 rfl) ?_
    refine lv_iload_n hx hb dX2_plusMinutes_17 rfl (lv_at hl 1 rfl) ?_
    refine lv_iload_n hx hb dX2_plusMinutes_18 rfl (lv_at hl 2 rfl) ?_
    refine lv_i2l (v := (p1.toInt64)) hx hb dX2_plusMinutes_19 (by first | rfl | decide) ?_
    refine lv_iconst (v := (4 : Int32)) hx hb dX2_plusMinutes_20 qi_4 ?_
    refine rcSl (as := [.int (4 : Int32)]) (rest := [.long (p1.toInt64), .int p0, .ref (b 0)]) C (c_X2_nanosOf l G (4 : Int32)) F_X2_nanosOf rfl bw1354 bw1355 (hE.S hS hAB) vpn hl.1 dX2_plusMinutes_21 ⟨Nat.le_of_ble_eq_true rfl, Nat.le_of_ble_eq_true rfl⟩ rfl (Nat.le_of_ble_eq_true rfl) ⟨Nat.le_of_ble_eq_true rfl, Nat.le_of_ble_eq_true rfl⟩ ?_
    refine wcVi (as := [.int p0, .long (p1.toInt64), .long (fX2_nanosOf (4 : Int32))]) (rest := []) (cl := RX2) C (c_X2_onLine l G b ((fth (fX2_isNone p0) (0 : Int32)), (my T), (mm T), (md T), (mt T), (T.2.2.2.2.2)) p0 (p1.toInt64) (fX2_nanosOf (4 : Int32)) (none_in (frf_a c_1)) (MO.same hT rfl) (nz_nanosOf (4 : Int32)) (by decide)) F_X2_onLine rfl bw1381 bw1383 bw43 (hE.S hS hAB) hP hD hS hA hAB (rv4 hE.K hP (q0 := 0) rfl) hl.1 dX2_plusMinutes_24 ⟨Nat.le_of_ble_eq_true rfl, Nat.le_of_ble_eq_true rfl⟩ rfl (Nat.le_of_ble_eq_true rfl) ⟨Nat.le_of_ble_eq_true rfl, Nat.le_of_ble_eq_true rfl⟩ (fun H locs hP hD hS => ?_)
    exact we_i (wf := wM G b) hx hb hr hk hP hD hS (Nat.le_of_ble_eq_true rfl) (Nat.le_of_ble_eq_true rfl) dX2_plusMinutes_27 (if_pos c_1)
  · have c_1 := rf_n c_1
    refine lv_iconst (v := (0 : Int32)) hx hb dX2_plusMinutes_12 qi_0 ?_
    refine lv_goto (tgt := 27) hx hb dX2_plusMinutes_13 (by decide) ?_
    exact we_i (wf := wM G b) hx hb hr hk hP hD hS (Nat.le_of_ble_eq_true rfl) (Nat.le_of_ble_eq_true rfl) dX2_plusMinutes_27 (if_neg c_1)

set_option maxRecDepth 100000 in
set_option maxHeartbeats 4000000 in
theorem c_X2_minusMinutes (l : Launch) (G : GT) (b : Nat → Nat) (T : SM) (p0 : Int32) (p1 : Int32) (hT : MO T) : WR l G yX2_minusMinutes cX2_minusMinutes 3 (some .int) 12 1 3 [.ref (b 0), .int p0, .int p1] (wM G b T) (wM G b (gX2_minusMinutes T p0 p1).2) (some (.int (gX2_minusMinutes T p0 p1).1)) := by
  refine WR.ofW (own := RX2) rfl (plainFor_of_name pnN_RX2) (Nat.le_of_ble_eq_true rfl) ?_
  intro p e s m below meth c A C hr hk hnm hE hP hD hA hAB hS ls hl
  have hx := C.1
  have hb := C.2.1
  have hown := C.2.2.2.1
  have hw := C.2.2.2.2
  have hl : lv_has ls 3 [(0, .ref (b 0)), (1, .int p0), (2, .int p1)] := hl
  refine lv_aload_n hx hb dX2_minusMinutes_0 rfl (lv_at hl 0 rfl) ?_
  refine lv_iload_n hx hb dX2_minusMinutes_1 rfl (lv_at hl 1 rfl) ?_
  refine rcSi (as := [.int p0]) (rest := [.ref (b 0)]) C (c_X2_isNone l G p0) F_X2_isNone rfl bw1216 bw1217 (hE.S hS hAB) vpn hl.1 dX2_minusMinutes_2 ⟨Nat.le_of_ble_eq_true rfl, Nat.le_of_ble_eq_true rfl⟩ rfl (Nat.le_of_ble_eq_true rfl) ⟨Nat.le_of_ble_eq_true rfl, Nat.le_of_ble_eq_true rfl⟩ ?_
  refine lv_iconst (v := (0 : Int32)) hx hb dX2_minusMinutes_5 qi_0 ?_
  refine wcVi (as := [.int (fX2_isNone p0), .int (0 : Int32)]) (rest := []) (cl := RX2) C (c_X2_refuses l G b T (fX2_isNone p0) (0 : Int32)) F_X2_refuses rfl bw1219 bw1221 bw33 (hE.S hS hAB) hP hD hS hA hAB (rv4 hE.K hP (q0 := 0) rfl) hl.1 dX2_minusMinutes_6 ⟨Nat.le_of_ble_eq_true rfl, Nat.le_of_ble_eq_true rfl⟩ rfl (Nat.le_of_ble_eq_true rfl) ⟨Nat.le_of_ble_eq_true rfl, Nat.le_of_ble_eq_true rfl⟩ (fun H locs hP hD hS => ?_)
  have hP : va_P (gD G) vwCl (wM G b ((fth (fX2_isNone p0) (0 : Int32)), (my T), (mm T), (md T), (mt T), (T.2.2.2.2.2))) H := hP
  have hD : va_D A (wM G b ((fth (fX2_isNone p0) (0 : Int32)), (my T), (mm T), (md T), (mt T), (T.2.2.2.2.2))) := hD
  refine lv_if_eq (tgt := 16) hx hb dX2_minusMinutes_9 (by decide) (fun c_1 => ?_) (fun c_1 => ?_)
  · have c_1 := rf_p c_1
    refine lv_aload_n hx hb dX2_minusMinutes_16 rfl (lv_at hl 0 rfl) ?_
    refine lv_iload_n hx hb dX2_minusMinutes_17 rfl (lv_at hl 1 rfl) ?_
    refine lv_iload_n hx hb dX2_minusMinutes_18 rfl (lv_at hl 2 rfl) ?_
    refine lv_i2l (v := (p1.toInt64)) hx hb dX2_minusMinutes_19 (by first | rfl | decide) ?_
    refine lv_lneg hx hb dX2_minusMinutes_20 ?_
    refine lv_iconst (v := (4 : Int32)) hx hb dX2_minusMinutes_21 qi_4 ?_
    refine rcSl (as := [.int (4 : Int32)]) (rest := [.long (-(p1.toInt64)), .int p0, .ref (b 0)]) C (c_X2_nanosOf l G (4 : Int32)) F_X2_nanosOf rfl bw1354 bw1355 (hE.S hS hAB) vpn hl.1 dX2_minusMinutes_22 ⟨Nat.le_of_ble_eq_true rfl, Nat.le_of_ble_eq_true rfl⟩ rfl (Nat.le_of_ble_eq_true rfl) ⟨Nat.le_of_ble_eq_true rfl, Nat.le_of_ble_eq_true rfl⟩ ?_
    refine wcVi (as := [.int p0, .long (-(p1.toInt64)), .long (fX2_nanosOf (4 : Int32))]) (rest := []) (cl := RX2) C (c_X2_onLine l G b ((fth (fX2_isNone p0) (0 : Int32)), (my T), (mm T), (md T), (mt T), (T.2.2.2.2.2)) p0 (-(p1.toInt64)) (fX2_nanosOf (4 : Int32)) (none_in (frf_a c_1)) (MO.same hT rfl) (nz_nanosOf (4 : Int32)) (by decide)) F_X2_onLine rfl bw1381 bw1383 bw43 (hE.S hS hAB) hP hD hS hA hAB (rv4 hE.K hP (q0 := 0) rfl) hl.1 dX2_minusMinutes_25 ⟨Nat.le_of_ble_eq_true rfl, Nat.le_of_ble_eq_true rfl⟩ rfl (Nat.le_of_ble_eq_true rfl) ⟨Nat.le_of_ble_eq_true rfl, Nat.le_of_ble_eq_true rfl⟩ (fun H locs hP hD hS => ?_)
    exact we_i (wf := wM G b) hx hb hr hk hP hD hS (Nat.le_of_ble_eq_true rfl) (Nat.le_of_ble_eq_true rfl) dX2_minusMinutes_28 (if_pos c_1)
  · have c_1 := rf_n c_1
    refine lv_iconst (v := (0 : Int32)) hx hb dX2_minusMinutes_12 qi_0 ?_
    refine lv_goto (tgt := 28) hx hb dX2_minusMinutes_13 (by decide) ?_
    exact we_i (wf := wM G b) hx hb hr hk hP hD hS (Nat.le_of_ble_eq_true rfl) (Nat.le_of_ble_eq_true rfl) dX2_minusMinutes_28 (if_neg c_1)

set_option maxRecDepth 100000 in
set_option maxHeartbeats 4000000 in
theorem c_X2_plusSeconds (l : Launch) (G : GT) (b : Nat → Nat) (T : SM) (p0 : Int32) (p1 : Int32) (hT : MO T) : WR l G yX2_plusSeconds cX2_plusSeconds 3 (some .int) 12 1 3 [.ref (b 0), .int p0, .int p1] (wM G b T) (wM G b (gX2_plusSeconds T p0 p1).2) (some (.int (gX2_plusSeconds T p0 p1).1)) := by
  refine WR.ofW (own := RX2) rfl (plainFor_of_name pnN_RX2) (Nat.le_of_ble_eq_true rfl) ?_
  intro p e s m below meth c A C hr hk hnm hE hP hD hA hAB hS ls hl
  have hx := C.1
  have hb := C.2.1
  have hown := C.2.2.2.1
  have hw := C.2.2.2.2
  have hl : lv_has ls 3 [(0, .ref (b 0)), (1, .int p0), (2, .int p1)] := hl
  refine lv_aload_n hx hb dX2_plusSeconds_0 rfl (lv_at hl 0 rfl) ?_
  refine lv_iload_n hx hb dX2_plusSeconds_1 rfl (lv_at hl 1 rfl) ?_
  refine rcSi (as := [.int p0]) (rest := [.ref (b 0)]) C (c_X2_isNone l G p0) F_X2_isNone rfl bw1216 bw1217 (hE.S hS hAB) vpn hl.1 dX2_plusSeconds_2 ⟨Nat.le_of_ble_eq_true rfl, Nat.le_of_ble_eq_true rfl⟩ rfl (Nat.le_of_ble_eq_true rfl) ⟨Nat.le_of_ble_eq_true rfl, Nat.le_of_ble_eq_true rfl⟩ ?_
  refine lv_iconst (v := (0 : Int32)) hx hb dX2_plusSeconds_5 qi_0 ?_
  refine wcVi (as := [.int (fX2_isNone p0), .int (0 : Int32)]) (rest := []) (cl := RX2) C (c_X2_refuses l G b T (fX2_isNone p0) (0 : Int32)) F_X2_refuses rfl bw1219 bw1221 bw33 (hE.S hS hAB) hP hD hS hA hAB (rv4 hE.K hP (q0 := 0) rfl) hl.1 dX2_plusSeconds_6 ⟨Nat.le_of_ble_eq_true rfl, Nat.le_of_ble_eq_true rfl⟩ rfl (Nat.le_of_ble_eq_true rfl) ⟨Nat.le_of_ble_eq_true rfl, Nat.le_of_ble_eq_true rfl⟩ (fun H locs hP hD hS => ?_)
  have hP : va_P (gD G) vwCl (wM G b ((fth (fX2_isNone p0) (0 : Int32)), (my T), (mm T), (md T), (mt T), (T.2.2.2.2.2))) H := hP
  have hD : va_D A (wM G b ((fth (fX2_isNone p0) (0 : Int32)), (my T), (mm T), (md T), (mt T), (T.2.2.2.2.2))) := hD
  refine lv_if_eq (tgt := 16) hx hb dX2_plusSeconds_9 (by decide) (fun c_1 => ?_) (fun c_1 => ?_)
  · have c_1 := rf_p c_1
    refine lv_aload_n hx hb dX2_plusSeconds_16 rfl (lv_at hl 0 rfl) ?_
    refine lv_iload_n hx hb dX2_plusSeconds_17 rfl (lv_at hl 1 rfl) ?_
    refine lv_iload_n hx hb dX2_plusSeconds_18 rfl (lv_at hl 2 rfl) ?_
    refine lv_i2l (v := (p1.toInt64)) hx hb dX2_plusSeconds_19 (by first | rfl | decide) ?_
    refine lv_ldc2 (v := (1000000000 : Int64)) hx hb hown (hw _ bw1238) dX2_plusSeconds_20 ?_
    refine wcVi (as := [.int p0, .long (p1.toInt64), .long (1000000000 : Int64)]) (rest := []) (cl := RX2) C (c_X2_onLine l G b ((fth (fX2_isNone p0) (0 : Int32)), (my T), (mm T), (md T), (mt T), (T.2.2.2.2.2)) p0 (p1.toInt64) (1000000000 : Int64) (none_in (frf_a c_1)) (MO.same hT rfl) (by decide) (by decide)) F_X2_onLine rfl bw1381 bw1383 bw43 (hE.S hS hAB) hP hD hS hA hAB (rv4 hE.K hP (q0 := 0) rfl) hl.1 dX2_plusSeconds_23 ⟨Nat.le_of_ble_eq_true rfl, Nat.le_of_ble_eq_true rfl⟩ rfl (Nat.le_of_ble_eq_true rfl) ⟨Nat.le_of_ble_eq_true rfl, Nat.le_of_ble_eq_true rfl⟩ (fun H locs hP hD hS => ?_)
    exact we_i (wf := wM G b) hx hb hr hk hP hD hS (Nat.le_of_ble_eq_true rfl) (Nat.le_of_ble_eq_true rfl) dX2_plusSeconds_26 (if_pos c_1)
  · have c_1 := rf_n c_1
    refine lv_iconst (v := (0 : Int32)) hx hb dX2_plusSeconds_12 qi_0 ?_
    refine lv_goto (tgt := 26) hx hb dX2_plusSeconds_13 (by decide) ?_
    exact we_i (wf := wM G b) hx hb hr hk hP hD hS (Nat.le_of_ble_eq_true rfl) (Nat.le_of_ble_eq_true rfl) dX2_plusSeconds_26 (if_neg c_1)

set_option maxRecDepth 100000 in
set_option maxHeartbeats 4000000 in
theorem c_X2_minusSeconds (l : Launch) (G : GT) (b : Nat → Nat) (T : SM) (p0 : Int32) (p1 : Int32) (hT : MO T) : WR l G yX2_minusSeconds cX2_minusSeconds 3 (some .int) 12 1 3 [.ref (b 0), .int p0, .int p1] (wM G b T) (wM G b (gX2_minusSeconds T p0 p1).2) (some (.int (gX2_minusSeconds T p0 p1).1)) := by
  refine WR.ofW (own := RX2) rfl (plainFor_of_name pnN_RX2) (Nat.le_of_ble_eq_true rfl) ?_
  intro p e s m below meth c A C hr hk hnm hE hP hD hA hAB hS ls hl
  have hx := C.1
  have hb := C.2.1
  have hown := C.2.2.2.1
  have hw := C.2.2.2.2
  have hl : lv_has ls 3 [(0, .ref (b 0)), (1, .int p0), (2, .int p1)] := hl
  refine lv_aload_n hx hb dX2_minusSeconds_0 rfl (lv_at hl 0 rfl) ?_
  refine lv_iload_n hx hb dX2_minusSeconds_1 rfl (lv_at hl 1 rfl) ?_
  refine rcSi (as := [.int p0]) (rest := [.ref (b 0)]) C (c_X2_isNone l G p0) F_X2_isNone rfl bw1216 bw1217 (hE.S hS hAB) vpn hl.1 dX2_minusSeconds_2 ⟨Nat.le_of_ble_eq_true rfl, Nat.le_of_ble_eq_true rfl⟩ rfl (Nat.le_of_ble_eq_true rfl) ⟨Nat.le_of_ble_eq_true rfl, Nat.le_of_ble_eq_true rfl⟩ ?_
  refine lv_iconst (v := (0 : Int32)) hx hb dX2_minusSeconds_5 qi_0 ?_
  refine wcVi (as := [.int (fX2_isNone p0), .int (0 : Int32)]) (rest := []) (cl := RX2) C (c_X2_refuses l G b T (fX2_isNone p0) (0 : Int32)) F_X2_refuses rfl bw1219 bw1221 bw33 (hE.S hS hAB) hP hD hS hA hAB (rv4 hE.K hP (q0 := 0) rfl) hl.1 dX2_minusSeconds_6 ⟨Nat.le_of_ble_eq_true rfl, Nat.le_of_ble_eq_true rfl⟩ rfl (Nat.le_of_ble_eq_true rfl) ⟨Nat.le_of_ble_eq_true rfl, Nat.le_of_ble_eq_true rfl⟩ (fun H locs hP hD hS => ?_)
  have hP : va_P (gD G) vwCl (wM G b ((fth (fX2_isNone p0) (0 : Int32)), (my T), (mm T), (md T), (mt T), (T.2.2.2.2.2))) H := hP
  have hD : va_D A (wM G b ((fth (fX2_isNone p0) (0 : Int32)), (my T), (mm T), (md T), (mt T), (T.2.2.2.2.2))) := hD
  refine lv_if_eq (tgt := 16) hx hb dX2_minusSeconds_9 (by decide) (fun c_1 => ?_) (fun c_1 => ?_)
  · have c_1 := rf_p c_1
    refine lv_aload_n hx hb dX2_minusSeconds_16 rfl (lv_at hl 0 rfl) ?_
    refine lv_iload_n hx hb dX2_minusSeconds_17 rfl (lv_at hl 1 rfl) ?_
    refine lv_iload_n hx hb dX2_minusSeconds_18 rfl (lv_at hl 2 rfl) ?_
    refine lv_i2l (v := (p1.toInt64)) hx hb dX2_minusSeconds_19 (by first | rfl | decide) ?_
    refine lv_lneg hx hb dX2_minusSeconds_20 ?_
    refine lv_ldc2 (v := (1000000000 : Int64)) hx hb hown (hw _ bw1238) dX2_minusSeconds_21 ?_
    refine wcVi (as := [.int p0, .long (-(p1.toInt64)), .long (1000000000 : Int64)]) (rest := []) (cl := RX2) C (c_X2_onLine l G b ((fth (fX2_isNone p0) (0 : Int32)), (my T), (mm T), (md T), (mt T), (T.2.2.2.2.2)) p0 (-(p1.toInt64)) (1000000000 : Int64) (none_in (frf_a c_1)) (MO.same hT rfl) (by decide) (by decide)) F_X2_onLine rfl bw1381 bw1383 bw43 (hE.S hS hAB) hP hD hS hA hAB (rv4 hE.K hP (q0 := 0) rfl) hl.1 dX2_minusSeconds_24 ⟨Nat.le_of_ble_eq_true rfl, Nat.le_of_ble_eq_true rfl⟩ rfl (Nat.le_of_ble_eq_true rfl) ⟨Nat.le_of_ble_eq_true rfl, Nat.le_of_ble_eq_true rfl⟩ (fun H locs hP hD hS => ?_)
    exact we_i (wf := wM G b) hx hb hr hk hP hD hS (Nat.le_of_ble_eq_true rfl) (Nat.le_of_ble_eq_true rfl) dX2_minusSeconds_27 (if_pos c_1)
  · have c_1 := rf_n c_1
    refine lv_iconst (v := (0 : Int32)) hx hb dX2_minusSeconds_12 qi_0 ?_
    refine lv_goto (tgt := 27) hx hb dX2_minusSeconds_13 (by decide) ?_
    exact we_i (wf := wM G b) hx hb hr hk hP hD hS (Nat.le_of_ble_eq_true rfl) (Nat.le_of_ble_eq_true rfl) dX2_minusSeconds_27 (if_neg c_1)

set_option maxRecDepth 100000 in
set_option maxHeartbeats 4000000 in
theorem c_X2_plusNanos (l : Launch) (G : GT) (b : Nat → Nat) (T : SM) (p0 : Int32) (p1 : Int32) (p2 : Int32) (hT : MO T) : WR l G yX2_plusNanos cX2_plusNanos 4 (some .int) 12 1 3 [.ref (b 0), .int p0, .int p1, .int p2] (wM G b T) (wM G b (gX2_plusNanos T p0 p1 p2).2) (some (.int (gX2_plusNanos T p0 p1 p2).1)) := by
  refine WR.ofW (own := RX2) rfl (plainFor_of_name pnN_RX2) (Nat.le_of_ble_eq_true rfl) ?_
  intro p e s m below meth c A C hr hk hnm hE hP hD hA hAB hS ls hl
  have hx := C.1
  have hb := C.2.1
  have hown := C.2.2.2.1
  have hw := C.2.2.2.2
  have hl : lv_has ls 4 [(0, .ref (b 0)), (1, .int p0), (2, .int p1), (3, .int p2)] := hl
  refine lv_aload_n hx hb dX2_plusNanos_0 rfl (lv_at hl 0 rfl) ?_
  refine lv_iload_n hx hb dX2_plusNanos_1 rfl (lv_at hl 1 rfl) ?_
  refine rcSi (as := [.int p0]) (rest := [.ref (b 0)]) C (c_X2_isNone l G p0) F_X2_isNone rfl bw1216 bw1217 (hE.S hS hAB) vpn hl.1 dX2_plusNanos_2 ⟨Nat.le_of_ble_eq_true rfl, Nat.le_of_ble_eq_true rfl⟩ rfl (Nat.le_of_ble_eq_true rfl) ⟨Nat.le_of_ble_eq_true rfl, Nat.le_of_ble_eq_true rfl⟩ ?_
  refine lv_iconst (v := (0 : Int32)) hx hb dX2_plusNanos_5 qi_0 ?_
  refine wcVi (as := [.int (fX2_isNone p0), .int (0 : Int32)]) (rest := []) (cl := RX2) C (c_X2_refuses l G b T (fX2_isNone p0) (0 : Int32)) F_X2_refuses rfl bw1219 bw1221 bw33 (hE.S hS hAB) hP hD hS hA hAB (rv4 hE.K hP (q0 := 0) rfl) hl.1 dX2_plusNanos_6 ⟨Nat.le_of_ble_eq_true rfl, Nat.le_of_ble_eq_true rfl⟩ rfl (Nat.le_of_ble_eq_true rfl) ⟨Nat.le_of_ble_eq_true rfl, Nat.le_of_ble_eq_true rfl⟩ (fun H locs hP hD hS => ?_)
  have hP : va_P (gD G) vwCl (wM G b ((fth (fX2_isNone p0) (0 : Int32)), (my T), (mm T), (md T), (mt T), (T.2.2.2.2.2))) H := hP
  have hD : va_D A (wM G b ((fth (fX2_isNone p0) (0 : Int32)), (my T), (mm T), (md T), (mt T), (T.2.2.2.2.2))) := hD
  refine lv_if_eq (tgt := 16) hx hb dX2_plusNanos_9 (by decide) (fun c_1 => ?_) (fun c_1 => ?_)
  · have c_1 := rf_p c_1
    refine lv_aload_n hx hb dX2_plusNanos_16 rfl (lv_at hl 0 rfl) ?_
    refine lv_iload_n hx hb dX2_plusNanos_17 rfl (lv_at hl 1 rfl) ?_
    refine lv_iload_n hx hb dX2_plusNanos_18 rfl (lv_at hl 2 rfl) ?_
    refine lv_i2l (v := (p1.toInt64)) hx hb dX2_plusNanos_19 (by first | rfl | decide) ?_
    refine lv_ldc2 (v := (1000000000 : Int64)) hx hb hown (hw _ bw1238) dX2_plusNanos_20 ?_
    refine lv_lmul hx hb dX2_plusNanos_23 ?_
    refine lv_iload_n hx hb dX2_plusNanos_24 rfl (lv_at hl 3 rfl) ?_
    refine lv_i2l (v := (p2.toInt64)) hx hb dX2_plusNanos_25 (by first | rfl | decide) ?_
    refine lv_ladd hx hb dX2_plusNanos_26 ?_
    refine lv_lconst (v := (1 : Int64)) hx hb dX2_plusNanos_27 ql_1 ?_
    refine wcVi (as := [.int p0, .long (((p1.toInt64) * (1000000000 : Int64)) + (p2.toInt64)), .long (1 : Int64)]) (rest := []) (cl := RX2) C (c_X2_onLine l G b ((fth (fX2_isNone p0) (0 : Int32)), (my T), (mm T), (md T), (mt T), (T.2.2.2.2.2)) p0 (((p1.toInt64) * (1000000000 : Int64)) + (p2.toInt64)) (1 : Int64) (none_in (frf_a c_1)) (MO.same hT rfl) (by decide) (by decide)) F_X2_onLine rfl bw1381 bw1383 bw43 (hE.S hS hAB) hP hD hS hA hAB (rv4 hE.K hP (q0 := 0) rfl) hl.1 dX2_plusNanos_28 ⟨Nat.le_of_ble_eq_true rfl, Nat.le_of_ble_eq_true rfl⟩ rfl (Nat.le_of_ble_eq_true rfl) ⟨Nat.le_of_ble_eq_true rfl, Nat.le_of_ble_eq_true rfl⟩ (fun H locs hP hD hS => ?_)
    exact we_i (wf := wM G b) hx hb hr hk hP hD hS (Nat.le_of_ble_eq_true rfl) (Nat.le_of_ble_eq_true rfl) dX2_plusNanos_31 (if_pos c_1)
  · have c_1 := rf_n c_1
    refine lv_iconst (v := (0 : Int32)) hx hb dX2_plusNanos_12 qi_0 ?_
    refine lv_goto (tgt := 31) hx hb dX2_plusNanos_13 (by decide) ?_
    exact we_i (wf := wM G b) hx hb hr hk hP hD hS (Nat.le_of_ble_eq_true rfl) (Nat.le_of_ble_eq_true rfl) dX2_plusNanos_31 (if_neg c_1)

set_option maxRecDepth 100000 in
set_option maxHeartbeats 4000000 in
theorem c_X2_minusNanos (l : Launch) (G : GT) (b : Nat → Nat) (T : SM) (p0 : Int32) (p1 : Int32) (p2 : Int32) (hT : MO T) : WR l G yX2_minusNanos cX2_minusNanos 4 (some .int) 12 1 3 [.ref (b 0), .int p0, .int p1, .int p2] (wM G b T) (wM G b (gX2_minusNanos T p0 p1 p2).2) (some (.int (gX2_minusNanos T p0 p1 p2).1)) := by
  refine WR.ofW (own := RX2) rfl (plainFor_of_name pnN_RX2) (Nat.le_of_ble_eq_true rfl) ?_
  intro p e s m below meth c A C hr hk hnm hE hP hD hA hAB hS ls hl
  have hx := C.1
  have hb := C.2.1
  have hown := C.2.2.2.1
  have hw := C.2.2.2.2
  have hl : lv_has ls 4 [(0, .ref (b 0)), (1, .int p0), (2, .int p1), (3, .int p2)] := hl
  refine lv_aload_n hx hb dX2_minusNanos_0 rfl (lv_at hl 0 rfl) ?_
  refine lv_iload_n hx hb dX2_minusNanos_1 rfl (lv_at hl 1 rfl) ?_
  refine rcSi (as := [.int p0]) (rest := [.ref (b 0)]) C (c_X2_isNone l G p0) F_X2_isNone rfl bw1216 bw1217 (hE.S hS hAB) vpn hl.1 dX2_minusNanos_2 ⟨Nat.le_of_ble_eq_true rfl, Nat.le_of_ble_eq_true rfl⟩ rfl (Nat.le_of_ble_eq_true rfl) ⟨Nat.le_of_ble_eq_true rfl, Nat.le_of_ble_eq_true rfl⟩ ?_
  refine lv_iconst (v := (0 : Int32)) hx hb dX2_minusNanos_5 qi_0 ?_
  refine wcVi (as := [.int (fX2_isNone p0), .int (0 : Int32)]) (rest := []) (cl := RX2) C (c_X2_refuses l G b T (fX2_isNone p0) (0 : Int32)) F_X2_refuses rfl bw1219 bw1221 bw33 (hE.S hS hAB) hP hD hS hA hAB (rv4 hE.K hP (q0 := 0) rfl) hl.1 dX2_minusNanos_6 ⟨Nat.le_of_ble_eq_true rfl, Nat.le_of_ble_eq_true rfl⟩ rfl (Nat.le_of_ble_eq_true rfl) ⟨Nat.le_of_ble_eq_true rfl, Nat.le_of_ble_eq_true rfl⟩ (fun H locs hP hD hS => ?_)
  have hP : va_P (gD G) vwCl (wM G b ((fth (fX2_isNone p0) (0 : Int32)), (my T), (mm T), (md T), (mt T), (T.2.2.2.2.2))) H := hP
  have hD : va_D A (wM G b ((fth (fX2_isNone p0) (0 : Int32)), (my T), (mm T), (md T), (mt T), (T.2.2.2.2.2))) := hD
  refine lv_if_eq (tgt := 16) hx hb dX2_minusNanos_9 (by decide) (fun c_1 => ?_) (fun c_1 => ?_)
  · have c_1 := rf_p c_1
    refine lv_aload_n hx hb dX2_minusNanos_16 rfl (lv_at hl 0 rfl) ?_
    refine lv_iload_n hx hb dX2_minusNanos_17 rfl (lv_at hl 1 rfl) ?_
    refine lv_iload_n hx hb dX2_minusNanos_18 rfl (lv_at hl 2 rfl) ?_
    refine lv_i2l (v := (p1.toInt64)) hx hb dX2_minusNanos_19 (by first | rfl | decide) ?_
    refine lv_ldc2 (v := (1000000000 : Int64)) hx hb hown (hw _ bw1238) dX2_minusNanos_20 ?_
    refine lv_lmul hx hb dX2_minusNanos_23 ?_
    refine lv_iload_n hx hb dX2_minusNanos_24 rfl (lv_at hl 3 rfl) ?_
    refine lv_i2l (v := (p2.toInt64)) hx hb dX2_minusNanos_25 (by first | rfl | decide) ?_
    refine lv_ladd hx hb dX2_minusNanos_26 ?_
    refine lv_lneg hx hb dX2_minusNanos_27 ?_
    refine lv_lconst (v := (1 : Int64)) hx hb dX2_minusNanos_28 ql_1 ?_
    refine wcVi (as := [.int p0, .long (-(((p1.toInt64) * (1000000000 : Int64)) + (p2.toInt64))), .long (1 : Int64)]) (rest := []) (cl := RX2) C (c_X2_onLine l G b ((fth (fX2_isNone p0) (0 : Int32)), (my T), (mm T), (md T), (mt T), (T.2.2.2.2.2)) p0 (-(((p1.toInt64) * (1000000000 : Int64)) + (p2.toInt64))) (1 : Int64) (none_in (frf_a c_1)) (MO.same hT rfl) (by decide) (by decide)) F_X2_onLine rfl bw1381 bw1383 bw43 (hE.S hS hAB) hP hD hS hA hAB (rv4 hE.K hP (q0 := 0) rfl) hl.1 dX2_minusNanos_29 ⟨Nat.le_of_ble_eq_true rfl, Nat.le_of_ble_eq_true rfl⟩ rfl (Nat.le_of_ble_eq_true rfl) ⟨Nat.le_of_ble_eq_true rfl, Nat.le_of_ble_eq_true rfl⟩ (fun H locs hP hD hS => ?_)
    exact we_i (wf := wM G b) hx hb hr hk hP hD hS (Nat.le_of_ble_eq_true rfl) (Nat.le_of_ble_eq_true rfl) dX2_minusNanos_32 (if_pos c_1)
  · have c_1 := rf_n c_1
    refine lv_iconst (v := (0 : Int32)) hx hb dX2_minusNanos_12 qi_0 ?_
    refine lv_goto (tgt := 32) hx hb dX2_minusNanos_13 (by decide) ?_
    exact we_i (wf := wM G b) hx hb hr hk hP hD hS (Nat.le_of_ble_eq_true rfl) (Nat.le_of_ble_eq_true rfl) dX2_minusNanos_32 (if_neg c_1)

set_option maxRecDepth 100000 in
set_option maxHeartbeats 4000000 in
theorem c_X2_plusUnits (l : Launch) (G : GT) (b : Nat → Nat) (T : SM) (p0 : Int32) (p1 : Int32) (p2 : Int32) (hT : MO T) : WR l G yX2_plusUnits cX2_plusUnits 4 (some .int) 12 1 3 [.ref (b 0), .int p0, .int p1, .int p2] (wM G b T) (wM G b (gX2_plusUnits T p0 p1 p2).2) (some (.int (gX2_plusUnits T p0 p1 p2).1)) := by
  refine WR.ofW (own := RX2) rfl (plainFor_of_name pnN_RX2) (Nat.le_of_ble_eq_true rfl) ?_
  intro p e s m below meth c A C hr hk hnm hE hP hD hA hAB hS ls hl
  have hx := C.1
  have hb := C.2.1
  have hown := C.2.2.2.1
  have hw := C.2.2.2.2
  have hl : lv_has ls 4 [(0, .ref (b 0)), (1, .int p0), (2, .int p1), (3, .int p2)] := hl
  refine lv_aload_n hx hb dX2_plusUnits_0 rfl (lv_at hl 0 rfl) ?_
  refine lv_iload_n hx hb dX2_plusUnits_1 rfl (lv_at hl 1 rfl) ?_
  refine rcSi (as := [.int p0]) (rest := [.ref (b 0)]) C (c_X2_isNone l G p0) F_X2_isNone rfl bw1216 bw1217 (hE.S hS hAB) vpn hl.1 dX2_plusUnits_2 ⟨Nat.le_of_ble_eq_true rfl, Nat.le_of_ble_eq_true rfl⟩ rfl (Nat.le_of_ble_eq_true rfl) ⟨Nat.le_of_ble_eq_true rfl, Nat.le_of_ble_eq_true rfl⟩ ?_
  refine lv_ldc (v := (-100000 : Int32)) hx hb hown (hw _ bw1443) dX2_plusUnits_5 ?_
  refine lv_ldc (v := (100000 : Int32)) hx hb hown (hw _ bw1444) dX2_plusUnits_7 ?_
  refine lv_iload_n hx hb dX2_plusUnits_9 rfl (lv_at hl 2 rfl) ?_
  refine rcSi (as := [.int (-100000 : Int32), .int (100000 : Int32), .int p1]) (rest := [.int (fX2_isNone p0), .ref (b 0)]) C (c_X2_isFrom l G (-100000 : Int32) (100000 : Int32) p1) F_X2_isFrom rfl bw1208 bw1209 (hE.S hS hAB) vpn hl.1 dX2_plusUnits_10 ⟨Nat.le_of_ble_eq_true rfl, Nat.le_of_ble_eq_true rfl⟩ rfl (Nat.le_of_ble_eq_true rfl) ⟨Nat.le_of_ble_eq_true rfl, Nat.le_of_ble_eq_true rfl⟩ ?_
  refine lv_if_eq (tgt := 26) hx hb dX2_plusUnits_13 (by decide) (fun c_1 => ?_) (fun c_1 => ?_)
  · refine lv_iconst (v := (1 : Int32)) hx hb dX2_plusUnits_26 qi_1 ?_
    refine lv_goto (tgt := 31) hx hb dX2_plusUnits_27 (by decide) ?_
    refine wcVi (as := [.int (fX2_isNone p0), .int (1 : Int32)]) (rest := []) (cl := RX2) C (c_X2_refuses l G b T (fX2_isNone p0) (1 : Int32)) F_X2_refuses rfl bw1219 bw1221 bw33 (hE.S hS hAB) hP hD hS hA hAB (rv4 hE.K hP (q0 := 0) rfl) hl.1 dX2_plusUnits_31 ⟨Nat.le_of_ble_eq_true rfl, Nat.le_of_ble_eq_true rfl⟩ rfl (Nat.le_of_ble_eq_true rfl) ⟨Nat.le_of_ble_eq_true rfl, Nat.le_of_ble_eq_true rfl⟩ (fun H locs hP hD hS => ?_)
    have hP : va_P (gD G) vwCl (wM G b ((fth (fX2_isNone p0) (1 : Int32)), (my T), (mm T), (md T), (mt T), (T.2.2.2.2.2))) H := hP
    have hD : va_D A (wM G b ((fth (fX2_isNone p0) (1 : Int32)), (my T), (mm T), (md T), (mt T), (T.2.2.2.2.2))) := hD
    refine lv_if_eq (tgt := 39) hx hb dX2_plusUnits_34 (by decide) (fun c_x => absurd c_x (frf_1 (fX2_isNone p0))) (fun _ => ?_)
    refine lv_iconst (v := (0 : Int32)) hx hb dX2_plusUnits_37 qi_0 ?_
    exact we_i (wf := wM G b) hx hb hr hk hP hD hS (Nat.le_of_ble_eq_true rfl) (Nat.le_of_ble_eq_true rfl) dX2_plusUnits_38 (if_pos c_1)
  · refine lv_iconst (v := (0 : Int32)) hx hb dX2_plusUnits_16 qi_0 ?_
    refine lv_bipush (v := (13 : Int32)) hx hb dX2_plusUnits_17 qb_13 ?_
    refine lv_iload_n hx hb dX2_plusUnits_19 rfl (lv_at hl 3 rfl) ?_
    refine rcSi (as := [.int (0 : Int32), .int (13 : Int32), .int p2]) (rest := [.int (fX2_isNone p0), .ref (b 0)]) C (c_X2_isFrom l G (0 : Int32) (13 : Int32) p2) F_X2_isFrom rfl bw1208 bw1209 (hE.S hS hAB) vpn hl.1 dX2_plusUnits_20 ⟨Nat.le_of_ble_eq_true rfl, Nat.le_of_ble_eq_true rfl⟩ rfl (Nat.le_of_ble_eq_true rfl) ⟨Nat.le_of_ble_eq_true rfl, Nat.le_of_ble_eq_true rfl⟩ ?_
    refine k_dia (b := (fX2_isFrom (0 : Int32) (13 : Int32) p2) = 0) (x := (1 : Int32)) (y := (0 : Int32)) (Wg := fun z9 => W _ _ _ _ _ _ _ _ _ _ _ _ _ _ _ (F0 m 31 ls (.int z9 :: _))) ?_ (fun t9 f9 => lv_if_ne (tgt := 30) hx hb dX2_plusUnits_23 (by decide) (fun c_x => lv_iconst (v := (0 : Int32)) hx hb dX2_plusUnits_30 qi_0 (f9 c_x)) (fun c_x => lv_iconst (v := (1 : Int32)) hx hb dX2_plusUnits_26 qi_1 (lv_goto (tgt := 31) hx hb dX2_plusUnits_27 (by decide) (t9 c_x))))
    refine wcVi (as := [.int (fX2_isNone p0), .int (if (fX2_isFrom (0 : Int32) (13 : Int32) p2) = 0 then (1 : Int32) else (0 : Int32))]) (rest := []) (cl := RX2) C (c_X2_refuses l G b T (fX2_isNone p0) (if (fX2_isFrom (0 : Int32) (13 : Int32) p2) = 0 then (1 : Int32) else (0 : Int32))) F_X2_refuses rfl bw1219 bw1221 bw33 (hE.S hS hAB) hP hD hS hA hAB (rv4 hE.K hP (q0 := 0) rfl) hl.1 dX2_plusUnits_31 ⟨Nat.le_of_ble_eq_true rfl, Nat.le_of_ble_eq_true rfl⟩ rfl (Nat.le_of_ble_eq_true rfl) ⟨Nat.le_of_ble_eq_true rfl, Nat.le_of_ble_eq_true rfl⟩ (fun H locs hP hD hS => ?_)
    have hP : va_P (gD G) vwCl (wM G b ((fth (fX2_isNone p0) (if (fX2_isFrom (0 : Int32) (13 : Int32) p2) = 0 then (1 : Int32) else (0 : Int32))), (my T), (mm T), (md T), (mt T), (T.2.2.2.2.2))) H := hP
    have hD : va_D A (wM G b ((fth (fX2_isNone p0) (if (fX2_isFrom (0 : Int32) (13 : Int32) p2) = 0 then (1 : Int32) else (0 : Int32))), (my T), (mm T), (md T), (mt T), (T.2.2.2.2.2))) := hD
    refine lv_if_eq (tgt := 39) hx hb dX2_plusUnits_34 (by decide) (fun c_2 => ?_) (fun c_2 => ?_)
    · have c_2 := rf_p c_2
      refine lv_iload_n hx hb dX2_plusUnits_39 rfl (lv_at hl 3 rfl) ?_
      refine lv_bipush (v := (8 : Int32)) hx hb dX2_plusUnits_40 qb_8 ?_
      refine lv_icmp_le (tgt := 59) hx hb dX2_plusUnits_42 (by decide) (fun c_3 => ?_) (fun c_3 => ?_)
      · refine lv_iload_n hx hb dX2_plusUnits_59 rfl (lv_at hl 3 rfl) ?_
        refine lv_bipush (v := (8 : Int32)) hx hb dX2_plusUnits_60 qb_8 ?_
        refine lv_icmp_ne (tgt := 82) hx hb dX2_plusUnits_62 (by decide) (fun c_4 => ?_) (fun c_4 => ?_)
        · refine lv_aload_n hx hb dX2_plusUnits_82 rfl (lv_at hl 0 rfl) ?_
          refine lv_iload_n hx hb dX2_plusUnits_83 rfl (lv_at hl 1 rfl) ?_
          refine lv_iload_n hx hb dX2_plusUnits_84 rfl (lv_at hl 2 rfl) ?_
          refine lv_i2l (v := (p1.toInt64)) hx hb dX2_plusUnits_85 (by first | rfl | decide) ?_
          refine lv_iload_n hx hb dX2_plusUnits_86 rfl (lv_at hl 3 rfl) ?_
          refine rcSl (as := [.int p2]) (rest := [.long (p1.toInt64), .int p0, .ref (b 0)]) C (c_X2_nanosOf l G p2) F_X2_nanosOf rfl bw1354 bw1355 (hE.S hS hAB) vpn hl.1 dX2_plusUnits_87 ⟨Nat.le_of_ble_eq_true rfl, Nat.le_of_ble_eq_true rfl⟩ rfl (Nat.le_of_ble_eq_true rfl) ⟨Nat.le_of_ble_eq_true rfl, Nat.le_of_ble_eq_true rfl⟩ ?_
          refine wcVi (as := [.int p0, .long (p1.toInt64), .long (fX2_nanosOf p2)]) (rest := []) (cl := RX2) C (c_X2_onLine l G b ((fth (fX2_isNone p0) (if (fX2_isFrom (0 : Int32) (13 : Int32) p2) = 0 then (1 : Int32) else (0 : Int32))), (my T), (mm T), (md T), (mt T), (T.2.2.2.2.2)) p0 (p1.toInt64) (fX2_nanosOf p2) (none_in (frf_a c_2)) (MO.same hT rfl) (nz_nanosOf p2) (inday_nz (dia1 (frf_b c_2)) c_3 c_4)) F_X2_onLine rfl bw1381 bw1383 bw43 (hE.S hS hAB) hP hD hS hA hAB (rv4 hE.K hP (q0 := 0) rfl) hl.1 dX2_plusUnits_90 ⟨Nat.le_of_ble_eq_true rfl, Nat.le_of_ble_eq_true rfl⟩ rfl (Nat.le_of_ble_eq_true rfl) ⟨Nat.le_of_ble_eq_true rfl, Nat.le_of_ble_eq_true rfl⟩ (fun H locs hP hD hS => ?_)
          exact we_i (wf := wM G b) hx hb hr hk hP hD hS (Nat.le_of_ble_eq_true rfl) (Nat.le_of_ble_eq_true rfl) dX2_plusUnits_93 (Eq.trans (if_neg c_1) (Eq.trans (if_pos c_2) (Eq.trans (if_pos c_3) (if_neg c_4))))
        · refine lv_aload_n hx hb dX2_plusUnits_65 rfl (lv_at hl 0 rfl) ?_
          refine lv_iload_n hx hb dX2_plusUnits_66 rfl (lv_at hl 1 rfl) ?_
          refine lv_ldc2 (v := (7 : Int64)) hx hb hown (hw _ bw1274) dX2_plusUnits_67 ?_
          refine lv_iload_n hx hb dX2_plusUnits_70 rfl (lv_at hl 2 rfl) ?_
          refine lv_i2l (v := (p1.toInt64)) hx hb dX2_plusUnits_71 (by first | rfl | decide) ?_
          refine lv_lmul hx hb dX2_plusUnits_72 ?_
          refine lv_ldc2 (v := (86400000000000 : Int64)) hx hb hown (hw _ bw1360) dX2_plusUnits_73 ?_
          refine wcVi (as := [.int p0, .long ((7 : Int64) * (p1.toInt64)), .long (86400000000000 : Int64)]) (rest := []) (cl := RX2) C (c_X2_onLine l G b ((fth (fX2_isNone p0) (if (fX2_isFrom (0 : Int32) (13 : Int32) p2) = 0 then (1 : Int32) else (0 : Int32))), (my T), (mm T), (md T), (mt T), (T.2.2.2.2.2)) p0 ((7 : Int64) * (p1.toInt64)) (86400000000000 : Int64) (none_in (frf_a c_2)) (MO.same hT rfl) (by decide) (by decide)) F_X2_onLine rfl bw1381 bw1383 bw43 (hE.S hS hAB) hP hD hS hA hAB (rv4 hE.K hP (q0 := 0) rfl) hl.1 dX2_plusUnits_76 ⟨Nat.le_of_ble_eq_true rfl, Nat.le_of_ble_eq_true rfl⟩ rfl (Nat.le_of_ble_eq_true rfl) ⟨Nat.le_of_ble_eq_true rfl, Nat.le_of_ble_eq_true rfl⟩ (fun H locs hP hD hS => ?_)
          refine lv_goto (tgt := 93) hx hb dX2_plusUnits_79 (by decide) ?_
          exact we_i (wf := wM G b) hx hb hr hk hP hD hS (Nat.le_of_ble_eq_true rfl) (Nat.le_of_ble_eq_true rfl) dX2_plusUnits_93 (Eq.trans (if_neg c_1) (Eq.trans (if_pos c_2) (Eq.trans (if_pos c_3) (if_pos c_4))))
      · refine lv_aload_n hx hb dX2_plusUnits_45 rfl (lv_at hl 0 rfl) ?_
        refine lv_iload_n hx hb dX2_plusUnits_46 rfl (lv_at hl 1 rfl) ?_
        refine lv_iload_n hx hb dX2_plusUnits_47 rfl (lv_at hl 2 rfl) ?_
        refine lv_i2l (v := (p1.toInt64)) hx hb dX2_plusUnits_48 (by first | rfl | decide) ?_
        refine lv_iload_n hx hb dX2_plusUnits_49 rfl (lv_at hl 3 rfl) ?_
        refine rcSi (as := [.int p2]) (rest := [.long (p1.toInt64), .int p0, .ref (b 0)]) C (c_X2_monthsOf l G p2) F_X2_monthsOf rfl bw1445 bw1446 (hE.S hS hAB) vpn hl.1 dX2_plusUnits_50 ⟨Nat.le_of_ble_eq_true rfl, Nat.le_of_ble_eq_true rfl⟩ rfl (Nat.le_of_ble_eq_true rfl) ⟨Nat.le_of_ble_eq_true rfl, Nat.le_of_ble_eq_true rfl⟩ ?_
        refine lv_i2l (v := ((fX2_monthsOf p2).toInt64)) hx hb dX2_plusUnits_53 (by first | rfl | decide) ?_
        refine lv_lmul hx hb dX2_plusUnits_54 ?_
        refine wcVi (as := [.int p0, .long ((p1.toInt64) * ((fX2_monthsOf p2).toInt64))]) (rest := []) (cl := RX2) C (c_X2_onMonths l G b ((fth (fX2_isNone p0) (if (fX2_isFrom (0 : Int32) (13 : Int32) p2) = 0 then (1 : Int32) else (0 : Int32))), (my T), (mm T), (md T), (mt T), (T.2.2.2.2.2)) p0 ((p1.toInt64) * ((fX2_monthsOf p2).toInt64)) (none_in (frf_a c_2)) (MO.same hT rfl)) F_X2_onMonths rfl bw1369 bw1371 bw42 (hE.S hS hAB) hP hD hS hA hAB (rv4 hE.K hP (q0 := 0) rfl) hl.1 dX2_plusUnits_55 ⟨Nat.le_of_ble_eq_true rfl, Nat.le_of_ble_eq_true rfl⟩ rfl (Nat.le_of_ble_eq_true rfl) ⟨Nat.le_of_ble_eq_true rfl, Nat.le_of_ble_eq_true rfl⟩ (fun H locs hP hD hS => ?_)
        exact we_i (wf := wM G b) hx hb hr hk hP hD hS (Nat.le_of_ble_eq_true rfl) (Nat.le_of_ble_eq_true rfl) dX2_plusUnits_58 (Eq.trans (if_neg c_1) (Eq.trans (if_pos c_2) (if_neg c_3)))
    · have c_2 := rf_n c_2
      refine lv_iconst (v := (0 : Int32)) hx hb dX2_plusUnits_37 qi_0 ?_
      exact we_i (wf := wM G b) hx hb hr hk hP hD hS (Nat.le_of_ble_eq_true rfl) (Nat.le_of_ble_eq_true rfl) dX2_plusUnits_38 (Eq.trans (if_neg c_1) (if_neg c_2))

set_option maxRecDepth 100000 in
set_option maxHeartbeats 4000000 in
theorem c_X2_year (l : Launch) (G : GT) (b : Nat → Nat) (T : SM) (p0 : Int32) (hT : MO T) : WR l G yX2_year cX2_year 2 (some .int) 12 0 0 [.ref (b 0), .int p0] (wM G b T) (wM G b (gX2_year T p0).2) (some (.int (gX2_year T p0).1)) := by
  refine WR.ofW (own := RX2) rfl (plainFor_of_name pnN_RX2) (Nat.le_of_ble_eq_true rfl) ?_
  intro p e s m below meth c A C hr hk hnm hE hP hD hA hAB hS ls hl
  have hx := C.1
  have hb := C.2.1
  have hown := C.2.2.2.1
  have hw := C.2.2.2.2
  have hl : lv_has ls 2 [(0, .ref (b 0)), (1, .int p0)] := hl
  refine lv_aload_n hx hb dX2_year_0 rfl (lv_at hl 0 rfl) ?_
  refine lv_iload_n hx hb dX2_year_1 rfl (lv_at hl 1 rfl) ?_
  refine rcSi (as := [.int p0]) (rest := [.ref (b 0)]) C (c_X2_isNone l G p0) F_X2_isNone rfl bw1216 bw1217 (hE.S hS hAB) vpn hl.1 dX2_year_2 ⟨Nat.le_of_ble_eq_true rfl, Nat.le_of_ble_eq_true rfl⟩ rfl (Nat.le_of_ble_eq_true rfl) ⟨Nat.le_of_ble_eq_true rfl, Nat.le_of_ble_eq_true rfl⟩ ?_
  refine lv_iconst (v := (0 : Int32)) hx hb dX2_year_5 qi_0 ?_
  refine wcVi (as := [.int (fX2_isNone p0), .int (0 : Int32)]) (rest := []) (cl := RX2) C (c_X2_refuses l G b T (fX2_isNone p0) (0 : Int32)) F_X2_refuses rfl bw1219 bw1221 bw33 (hE.S hS hAB) hP hD hS hA hAB (rv4 hE.K hP (q0 := 0) rfl) hl.1 dX2_year_6 ⟨Nat.le_of_ble_eq_true rfl, Nat.le_of_ble_eq_true rfl⟩ rfl (Nat.le_of_ble_eq_true rfl) ⟨Nat.le_of_ble_eq_true rfl, Nat.le_of_ble_eq_true rfl⟩ (fun H locs hP hD hS => ?_)
  have hP : va_P (gD G) vwCl (wM G b ((fth (fX2_isNone p0) (0 : Int32)), (my T), (mm T), (md T), (mt T), (T.2.2.2.2.2))) H := hP
  have hD : va_D A (wM G b ((fth (fX2_isNone p0) (0 : Int32)), (my T), (mm T), (md T), (mt T), (T.2.2.2.2.2))) := hD
  refine lv_if_eq (tgt := 16) hx hb dX2_year_9 (by decide) (fun c_1 => ?_) (fun c_1 => ?_)
  · have c_1 := rf_p c_1
    refine lv_aload_n hx hb dX2_year_16 rfl (lv_at hl 0 rfl) ?_
    refine va_get (D := gD G) (cl := vwCl) (tys := gT G) (ci := 4) (v := .ref (b 1)) (C := RX2) (T := TX2) (N := 12) hx hb hw inB_X2 hown hE.K hP 0 rfl rfl 1 (by decide) (hw _ bw1164) (fun _ h9 => h9) rfl dX2_year_17 ?_
    refine lv_iload_n hx hb dX2_year_20 rfl (lv_at hl 1 rfl) ?_
    refine va_iald (tys := gT G) hx hb hE.K hP 1 0 rfl rfl (none_in (frf_a c_1)) dX2_year_21 ?_
    exact we_i (wf := wM G b) hx hb hr hk hP hD hS (Nat.le_of_ble_eq_true rfl) (Nat.le_of_ble_eq_true rfl) dX2_year_22 (if_pos c_1)
  · have c_1 := rf_n c_1
    refine lv_iconst (v := (0 : Int32)) hx hb dX2_year_12 qi_0 ?_
    refine lv_goto (tgt := 22) hx hb dX2_year_13 (by decide) ?_
    exact we_i (wf := wM G b) hx hb hr hk hP hD hS (Nat.le_of_ble_eq_true rfl) (Nat.le_of_ble_eq_true rfl) dX2_year_22 (if_neg c_1)

set_option maxRecDepth 100000 in
set_option maxHeartbeats 4000000 in
theorem c_X2_month (l : Launch) (G : GT) (b : Nat → Nat) (T : SM) (p0 : Int32) (hT : MO T) : WR l G yX2_month cX2_month 2 (some .int) 12 0 0 [.ref (b 0), .int p0] (wM G b T) (wM G b (gX2_month T p0).2) (some (.int (gX2_month T p0).1)) := by
  refine WR.ofW (own := RX2) rfl (plainFor_of_name pnN_RX2) (Nat.le_of_ble_eq_true rfl) ?_
  intro p e s m below meth c A C hr hk hnm hE hP hD hA hAB hS ls hl
  have hx := C.1
  have hb := C.2.1
  have hown := C.2.2.2.1
  have hw := C.2.2.2.2
  have hl : lv_has ls 2 [(0, .ref (b 0)), (1, .int p0)] := hl
  refine lv_aload_n hx hb dX2_month_0 rfl (lv_at hl 0 rfl) ?_
  refine lv_iload_n hx hb dX2_month_1 rfl (lv_at hl 1 rfl) ?_
  refine rcSi (as := [.int p0]) (rest := [.ref (b 0)]) C (c_X2_isNone l G p0) F_X2_isNone rfl bw1216 bw1217 (hE.S hS hAB) vpn hl.1 dX2_month_2 ⟨Nat.le_of_ble_eq_true rfl, Nat.le_of_ble_eq_true rfl⟩ rfl (Nat.le_of_ble_eq_true rfl) ⟨Nat.le_of_ble_eq_true rfl, Nat.le_of_ble_eq_true rfl⟩ ?_
  refine lv_iconst (v := (0 : Int32)) hx hb dX2_month_5 qi_0 ?_
  refine wcVi (as := [.int (fX2_isNone p0), .int (0 : Int32)]) (rest := []) (cl := RX2) C (c_X2_refuses l G b T (fX2_isNone p0) (0 : Int32)) F_X2_refuses rfl bw1219 bw1221 bw33 (hE.S hS hAB) hP hD hS hA hAB (rv4 hE.K hP (q0 := 0) rfl) hl.1 dX2_month_6 ⟨Nat.le_of_ble_eq_true rfl, Nat.le_of_ble_eq_true rfl⟩ rfl (Nat.le_of_ble_eq_true rfl) ⟨Nat.le_of_ble_eq_true rfl, Nat.le_of_ble_eq_true rfl⟩ (fun H locs hP hD hS => ?_)
  have hP : va_P (gD G) vwCl (wM G b ((fth (fX2_isNone p0) (0 : Int32)), (my T), (mm T), (md T), (mt T), (T.2.2.2.2.2))) H := hP
  have hD : va_D A (wM G b ((fth (fX2_isNone p0) (0 : Int32)), (my T), (mm T), (md T), (mt T), (T.2.2.2.2.2))) := hD
  refine lv_if_eq (tgt := 16) hx hb dX2_month_9 (by decide) (fun c_1 => ?_) (fun c_1 => ?_)
  · have c_1 := rf_p c_1
    refine lv_aload_n hx hb dX2_month_16 rfl (lv_at hl 0 rfl) ?_
    refine va_get (D := gD G) (cl := vwCl) (tys := gT G) (ci := 4) (v := .ref (b 2)) (C := RX2) (T := TX2) (N := 12) hx hb hw inB_X2 hown hE.K hP 0 rfl rfl 2 (by decide) (hw _ bw1165) (fun _ h9 => h9) rfl dX2_month_17 ?_
    refine lv_iload_n hx hb dX2_month_20 rfl (lv_at hl 1 rfl) ?_
    refine va_iald (tys := gT G) hx hb hE.K hP 2 0 rfl rfl (none_in (frf_a c_1)) dX2_month_21 ?_
    exact we_i (wf := wM G b) hx hb hr hk hP hD hS (Nat.le_of_ble_eq_true rfl) (Nat.le_of_ble_eq_true rfl) dX2_month_22 (if_pos c_1)
  · have c_1 := rf_n c_1
    refine lv_iconst (v := (0 : Int32)) hx hb dX2_month_12 qi_0 ?_
    refine lv_goto (tgt := 22) hx hb dX2_month_13 (by decide) ?_
    exact we_i (wf := wM G b) hx hb hr hk hP hD hS (Nat.le_of_ble_eq_true rfl) (Nat.le_of_ble_eq_true rfl) dX2_month_22 (if_neg c_1)

set_option maxRecDepth 100000 in
set_option maxHeartbeats 4000000 in
theorem c_X2_dayOfMonth (l : Launch) (G : GT) (b : Nat → Nat) (T : SM) (p0 : Int32) (hT : MO T) : WR l G yX2_dayOfMonth cX2_dayOfMonth 2 (some .int) 12 0 0 [.ref (b 0), .int p0] (wM G b T) (wM G b (gX2_dayOfMonth T p0).2) (some (.int (gX2_dayOfMonth T p0).1)) := by
  refine WR.ofW (own := RX2) rfl (plainFor_of_name pnN_RX2) (Nat.le_of_ble_eq_true rfl) ?_
  intro p e s m below meth c A C hr hk hnm hE hP hD hA hAB hS ls hl
  have hx := C.1
  have hb := C.2.1
  have hown := C.2.2.2.1
  have hw := C.2.2.2.2
  have hl : lv_has ls 2 [(0, .ref (b 0)), (1, .int p0)] := hl
  refine lv_aload_n hx hb dX2_dayOfMonth_0 rfl (lv_at hl 0 rfl) ?_
  refine lv_iload_n hx hb dX2_dayOfMonth_1 rfl (lv_at hl 1 rfl) ?_
  refine rcSi (as := [.int p0]) (rest := [.ref (b 0)]) C (c_X2_isNone l G p0) F_X2_isNone rfl bw1216 bw1217 (hE.S hS hAB) vpn hl.1 dX2_dayOfMonth_2 ⟨Nat.le_of_ble_eq_true rfl, Nat.le_of_ble_eq_true rfl⟩ rfl (Nat.le_of_ble_eq_true rfl) ⟨Nat.le_of_ble_eq_true rfl, Nat.le_of_ble_eq_true rfl⟩ ?_
  refine lv_iconst (v := (0 : Int32)) hx hb dX2_dayOfMonth_5 qi_0 ?_
  refine wcVi (as := [.int (fX2_isNone p0), .int (0 : Int32)]) (rest := []) (cl := RX2) C (c_X2_refuses l G b T (fX2_isNone p0) (0 : Int32)) F_X2_refuses rfl bw1219 bw1221 bw33 (hE.S hS hAB) hP hD hS hA hAB (rv4 hE.K hP (q0 := 0) rfl) hl.1 dX2_dayOfMonth_6 ⟨Nat.le_of_ble_eq_true rfl, Nat.le_of_ble_eq_true rfl⟩ rfl (Nat.le_of_ble_eq_true rfl) ⟨Nat.le_of_ble_eq_true rfl, Nat.le_of_ble_eq_true rfl⟩ (fun H locs hP hD hS => ?_)
  have hP : va_P (gD G) vwCl (wM G b ((fth (fX2_isNone p0) (0 : Int32)), (my T), (mm T), (md T), (mt T), (T.2.2.2.2.2))) H := hP
  have hD : va_D A (wM G b ((fth (fX2_isNone p0) (0 : Int32)), (my T), (mm T), (md T), (mt T), (T.2.2.2.2.2))) := hD
  refine lv_if_eq (tgt := 16) hx hb dX2_dayOfMonth_9 (by decide) (fun c_1 => ?_) (fun c_1 => ?_)
  · have c_1 := rf_p c_1
    refine lv_aload_n hx hb dX2_dayOfMonth_16 rfl (lv_at hl 0 rfl) ?_
    refine va_get (D := gD G) (cl := vwCl) (tys := gT G) (ci := 4) (v := .ref (b 3)) (C := RX2) (T := TX2) (N := 12) hx hb hw inB_X2 hown hE.K hP 0 rfl rfl 3 (by decide) (hw _ bw1166) (fun _ h9 => h9) rfl dX2_dayOfMonth_17 ?_
    refine lv_iload_n hx hb dX2_dayOfMonth_20 rfl (lv_at hl 1 rfl) ?_
    refine va_iald (tys := gT G) hx hb hE.K hP 3 0 rfl rfl (none_in (frf_a c_1)) dX2_dayOfMonth_21 ?_
    exact we_i (wf := wM G b) hx hb hr hk hP hD hS (Nat.le_of_ble_eq_true rfl) (Nat.le_of_ble_eq_true rfl) dX2_dayOfMonth_22 (if_pos c_1)
  · have c_1 := rf_n c_1
    refine lv_iconst (v := (0 : Int32)) hx hb dX2_dayOfMonth_12 qi_0 ?_
    refine lv_goto (tgt := 22) hx hb dX2_dayOfMonth_13 (by decide) ?_
    exact we_i (wf := wM G b) hx hb hr hk hP hD hS (Nat.le_of_ble_eq_true rfl) (Nat.le_of_ble_eq_true rfl) dX2_dayOfMonth_22 (if_neg c_1)

set_option maxRecDepth 100000 in
set_option maxHeartbeats 4000000 in
theorem c_X2_dayOfYear (l : Launch) (G : GT) (b : Nat → Nat) (T : SM) (p0 : Int32) (hT : MO T) : WR l G yX2_dayOfYear cX2_dayOfYear 2 (some .int) 12 0 0 [.ref (b 0), .int p0] (wM G b T) (wM G b (gX2_dayOfYear T p0).2) (some (.int (gX2_dayOfYear T p0).1)) := by
  refine WR.ofW (own := RX2) rfl (plainFor_of_name pnN_RX2) (Nat.le_of_ble_eq_true rfl) ?_
  intro p e s m below meth c A C hr hk hnm hE hP hD hA hAB hS ls hl
  have hx := C.1
  have hb := C.2.1
  have hown := C.2.2.2.1
  have hw := C.2.2.2.2
  have hl : lv_has ls 2 [(0, .ref (b 0)), (1, .int p0)] := hl
  refine lv_aload_n hx hb dX2_dayOfYear_0 rfl (lv_at hl 0 rfl) ?_
  refine lv_iload_n hx hb dX2_dayOfYear_1 rfl (lv_at hl 1 rfl) ?_
  refine rcSi (as := [.int p0]) (rest := [.ref (b 0)]) C (c_X2_isNone l G p0) F_X2_isNone rfl bw1216 bw1217 (hE.S hS hAB) vpn hl.1 dX2_dayOfYear_2 ⟨Nat.le_of_ble_eq_true rfl, Nat.le_of_ble_eq_true rfl⟩ rfl (Nat.le_of_ble_eq_true rfl) ⟨Nat.le_of_ble_eq_true rfl, Nat.le_of_ble_eq_true rfl⟩ ?_
  refine lv_iconst (v := (0 : Int32)) hx hb dX2_dayOfYear_5 qi_0 ?_
  refine wcVi (as := [.int (fX2_isNone p0), .int (0 : Int32)]) (rest := []) (cl := RX2) C (c_X2_refuses l G b T (fX2_isNone p0) (0 : Int32)) F_X2_refuses rfl bw1219 bw1221 bw33 (hE.S hS hAB) hP hD hS hA hAB (rv4 hE.K hP (q0 := 0) rfl) hl.1 dX2_dayOfYear_6 ⟨Nat.le_of_ble_eq_true rfl, Nat.le_of_ble_eq_true rfl⟩ rfl (Nat.le_of_ble_eq_true rfl) ⟨Nat.le_of_ble_eq_true rfl, Nat.le_of_ble_eq_true rfl⟩ (fun H locs hP hD hS => ?_)
  have hP : va_P (gD G) vwCl (wM G b ((fth (fX2_isNone p0) (0 : Int32)), (my T), (mm T), (md T), (mt T), (T.2.2.2.2.2))) H := hP
  have hD : va_D A (wM G b ((fth (fX2_isNone p0) (0 : Int32)), (my T), (mm T), (md T), (mt T), (T.2.2.2.2.2))) := hD
  refine lv_if_eq (tgt := 16) hx hb dX2_dayOfYear_9 (by decide) (fun c_1 => ?_) (fun c_1 => ?_)
  · have c_1 := rf_p c_1
    refine lv_aload_n hx hb dX2_dayOfYear_16 rfl (lv_at hl 0 rfl) ?_
    refine lv_iload_n hx hb dX2_dayOfYear_17 rfl (lv_at hl 1 rfl) ?_
    refine rcVi (as := [.int p0]) (rest := []) (cl := RX2) C (c_X2_inYearNow l G b ((fth (fX2_isNone p0) (0 : Int32)), (my T), (mm T), (md T), (mt T), (T.2.2.2.2.2)) p0 (none_in (frf_a c_1)) (MO.same hT rfl)) F_X2_inYearNow rfl bw1464 bw1466 bw44 (hE.S hS hAB) hP (rv4 hE.K hP (q0 := 0) rfl) hl.1 dX2_dayOfYear_18 ⟨Nat.le_of_ble_eq_true rfl, Nat.le_of_ble_eq_true rfl⟩ rfl (Nat.le_of_ble_eq_true rfl) ⟨Nat.le_of_ble_eq_true rfl, Nat.le_of_ble_eq_true rfl⟩ ?_
    exact we_i (wf := wM G b) hx hb hr hk hP hD hS (Nat.le_of_ble_eq_true rfl) (Nat.le_of_ble_eq_true rfl) dX2_dayOfYear_21 (if_pos c_1)
  · have c_1 := rf_n c_1
    refine lv_iconst (v := (0 : Int32)) hx hb dX2_dayOfYear_12 qi_0 ?_
    refine lv_goto (tgt := 21) hx hb dX2_dayOfYear_13 (by decide) ?_
    exact we_i (wf := wM G b) hx hb hr hk hP hD hS (Nat.le_of_ble_eq_true rfl) (Nat.le_of_ble_eq_true rfl) dX2_dayOfYear_21 (if_neg c_1)

set_option maxRecDepth 100000 in
set_option maxHeartbeats 4000000 in
theorem c_X2_dayOfWeek (l : Launch) (G : GT) (b : Nat → Nat) (T : SM) (p0 : Int32) (hT : MO T) : WR l G yX2_dayOfWeek cX2_dayOfWeek 2 (some .int) 12 0 0 [.ref (b 0), .int p0] (wM G b T) (wM G b (gX2_dayOfWeek T p0).2) (some (.int (gX2_dayOfWeek T p0).1)) := by
  refine WR.ofW (own := RX2) rfl (plainFor_of_name pnN_RX2) (Nat.le_of_ble_eq_true rfl) ?_
  intro p e s m below meth c A C hr hk hnm hE hP hD hA hAB hS ls hl
  have hx := C.1
  have hb := C.2.1
  have hown := C.2.2.2.1
  have hw := C.2.2.2.2
  have hl : lv_has ls 2 [(0, .ref (b 0)), (1, .int p0)] := hl
  refine lv_aload_n hx hb dX2_dayOfWeek_0 rfl (lv_at hl 0 rfl) ?_
  refine lv_iload_n hx hb dX2_dayOfWeek_1 rfl (lv_at hl 1 rfl) ?_
  refine rcSi (as := [.int p0]) (rest := [.ref (b 0)]) C (c_X2_isNone l G p0) F_X2_isNone rfl bw1216 bw1217 (hE.S hS hAB) vpn hl.1 dX2_dayOfWeek_2 ⟨Nat.le_of_ble_eq_true rfl, Nat.le_of_ble_eq_true rfl⟩ rfl (Nat.le_of_ble_eq_true rfl) ⟨Nat.le_of_ble_eq_true rfl, Nat.le_of_ble_eq_true rfl⟩ ?_
  refine lv_iconst (v := (0 : Int32)) hx hb dX2_dayOfWeek_5 qi_0 ?_
  refine wcVi (as := [.int (fX2_isNone p0), .int (0 : Int32)]) (rest := []) (cl := RX2) C (c_X2_refuses l G b T (fX2_isNone p0) (0 : Int32)) F_X2_refuses rfl bw1219 bw1221 bw33 (hE.S hS hAB) hP hD hS hA hAB (rv4 hE.K hP (q0 := 0) rfl) hl.1 dX2_dayOfWeek_6 ⟨Nat.le_of_ble_eq_true rfl, Nat.le_of_ble_eq_true rfl⟩ rfl (Nat.le_of_ble_eq_true rfl) ⟨Nat.le_of_ble_eq_true rfl, Nat.le_of_ble_eq_true rfl⟩ (fun H locs hP hD hS => ?_)
  have hP : va_P (gD G) vwCl (wM G b ((fth (fX2_isNone p0) (0 : Int32)), (my T), (mm T), (md T), (mt T), (T.2.2.2.2.2))) H := hP
  have hD : va_D A (wM G b ((fth (fX2_isNone p0) (0 : Int32)), (my T), (mm T), (md T), (mt T), (T.2.2.2.2.2))) := hD
  refine lv_if_eq (tgt := 16) hx hb dX2_dayOfWeek_9 (by decide) (fun c_1 => ?_) (fun c_1 => ?_)
  · have c_1 := rf_p c_1
    refine lv_aload_n hx hb dX2_dayOfWeek_16 rfl (lv_at hl 0 rfl) ?_
    refine lv_iload_n hx hb dX2_dayOfWeek_17 rfl (lv_at hl 1 rfl) ?_
    refine rcVi (as := [.int p0]) (rest := []) (cl := RX2) C (c_X2_weekDayNow l G b ((fth (fX2_isNone p0) (0 : Int32)), (my T), (mm T), (md T), (mt T), (T.2.2.2.2.2)) p0 (none_in (frf_a c_1)) (MO.same hT rfl)) F_X2_weekDayNow rfl bw1243 bw1245 bw37 (hE.S hS hAB) hP (rv4 hE.K hP (q0 := 0) rfl) hl.1 dX2_dayOfWeek_18 ⟨Nat.le_of_ble_eq_true rfl, Nat.le_of_ble_eq_true rfl⟩ rfl (Nat.le_of_ble_eq_true rfl) ⟨Nat.le_of_ble_eq_true rfl, Nat.le_of_ble_eq_true rfl⟩ ?_
    exact we_i (wf := wM G b) hx hb hr hk hP hD hS (Nat.le_of_ble_eq_true rfl) (Nat.le_of_ble_eq_true rfl) dX2_dayOfWeek_21 (if_pos c_1)
  · have c_1 := rf_n c_1
    refine lv_iconst (v := (0 : Int32)) hx hb dX2_dayOfWeek_12 qi_0 ?_
    refine lv_goto (tgt := 21) hx hb dX2_dayOfWeek_13 (by decide) ?_
    exact we_i (wf := wM G b) hx hb hr hk hP hD hS (Nat.le_of_ble_eq_true rfl) (Nat.le_of_ble_eq_true rfl) dX2_dayOfWeek_21 (if_neg c_1)

set_option maxRecDepth 100000 in
set_option maxHeartbeats 4000000 in
theorem c_X2_hour (l : Launch) (G : GT) (b : Nat → Nat) (T : SM) (p0 : Int32) (hT : MO T) : WR l G yX2_hour cX2_hour 2 (some .int) 12 0 0 [.ref (b 0), .int p0] (wM G b T) (wM G b (gX2_hour T p0).2) (some (.int (gX2_hour T p0).1)) := by
  refine WR.ofW (own := RX2) rfl (plainFor_of_name pnN_RX2) (Nat.le_of_ble_eq_true rfl) ?_
  intro p e s m below meth c A C hr hk hnm hE hP hD hA hAB hS ls hl
  have hx := C.1
  have hb := C.2.1
  have hown := C.2.2.2.1
  have hw := C.2.2.2.2
  have hl : lv_has ls 2 [(0, .ref (b 0)), (1, .int p0)] := hl
  refine lv_aload_n hx hb dX2_hour_0 rfl (lv_at hl 0 rfl) ?_
  refine lv_iload_n hx hb dX2_hour_1 rfl (lv_at hl 1 rfl) ?_
  refine rcSi (as := [.int p0]) (rest := [.ref (b 0)]) C (c_X2_isNone l G p0) F_X2_isNone rfl bw1216 bw1217 (hE.S hS hAB) vpn hl.1 dX2_hour_2 ⟨Nat.le_of_ble_eq_true rfl, Nat.le_of_ble_eq_true rfl⟩ rfl (Nat.le_of_ble_eq_true rfl) ⟨Nat.le_of_ble_eq_true rfl, Nat.le_of_ble_eq_true rfl⟩ ?_
  refine lv_iconst (v := (0 : Int32)) hx hb dX2_hour_5 qi_0 ?_
  refine wcVi (as := [.int (fX2_isNone p0), .int (0 : Int32)]) (rest := []) (cl := RX2) C (c_X2_refuses l G b T (fX2_isNone p0) (0 : Int32)) F_X2_refuses rfl bw1219 bw1221 bw33 (hE.S hS hAB) hP hD hS hA hAB (rv4 hE.K hP (q0 := 0) rfl) hl.1 dX2_hour_6 ⟨Nat.le_of_ble_eq_true rfl, Nat.le_of_ble_eq_true rfl⟩ rfl (Nat.le_of_ble_eq_true rfl) ⟨Nat.le_of_ble_eq_true rfl, Nat.le_of_ble_eq_true rfl⟩ (fun H locs hP hD hS => ?_)
  have hP : va_P (gD G) vwCl (wM G b ((fth (fX2_isNone p0) (0 : Int32)), (my T), (mm T), (md T), (mt T), (T.2.2.2.2.2))) H := hP
  have hD : va_D A (wM G b ((fth (fX2_isNone p0) (0 : Int32)), (my T), (mm T), (md T), (mt T), (T.2.2.2.2.2))) := hD
  refine lv_if_eq (tgt := 16) hx hb dX2_hour_9 (by decide) (fun c_1 => ?_) (fun c_1 => ?_)
  · have c_1 := rf_p c_1
    refine lv_aload_n hx hb dX2_hour_16 rfl (lv_at hl 0 rfl) ?_
    refine lv_iload_n hx hb dX2_hour_17 rfl (lv_at hl 1 rfl) ?_
    refine lv_iconst (v := (5 : Int32)) hx hb dX2_hour_18 qi_5 ?_
    refine rcSl (as := [.int (5 : Int32)]) (rest := [.int p0, .ref (b 0)]) C (c_X2_nanosOf l G (5 : Int32)) F_X2_nanosOf rfl bw1354 bw1355 (hE.S hS hAB) vpn hl.1 dX2_hour_19 ⟨Nat.le_of_ble_eq_true rfl, Nat.le_of_ble_eq_true rfl⟩ rfl (Nat.le_of_ble_eq_true rfl) ⟨Nat.le_of_ble_eq_true rfl, Nat.le_of_ble_eq_true rfl⟩ ?_
    refine lv_ldc2 (v := (24 : Int64)) hx hb hown (hw _ bw1332) dX2_hour_22 ?_
    refine rcVi (as := [.int p0, .long (fX2_nanosOf (5 : Int32)), .long (24 : Int64)]) (rest := []) (cl := RX2) C (c_X2_part l G b ((fth (fX2_isNone p0) (0 : Int32)), (my T), (mm T), (md T), (mt T), (T.2.2.2.2.2)) p0 (fX2_nanosOf (5 : Int32)) (24 : Int64) (none_in (frf_a c_1)) (nz_nanosOf (5 : Int32)) (by decide)) F_X2_part rfl bw1476 bw1478 bw45 (hE.S hS hAB) hP (rv4 hE.K hP (q0 := 0) rfl) hl.1 dX2_hour_25 ⟨Nat.le_of_ble_eq_true rfl, Nat.le_of_ble_eq_true rfl⟩ rfl (Nat.le_of_ble_eq_true rfl) ⟨Nat.le_of_ble_eq_true rfl, Nat.le_of_ble_eq_true rfl⟩ ?_
    exact we_i (wf := wM G b) hx hb hr hk hP hD hS (Nat.le_of_ble_eq_true rfl) (Nat.le_of_ble_eq_true rfl) dX2_hour_28 (if_pos c_1)
  · have c_1 := rf_n c_1
    refine lv_iconst (v := (0 : Int32)) hx hb dX2_hour_12 qi_0 ?_
    refine lv_goto (tgt := 28) hx hb dX2_hour_13 (by decide) ?_
    exact we_i (wf := wM G b) hx hb hr hk hP hD hS (Nat.le_of_ble_eq_true rfl) (Nat.le_of_ble_eq_true rfl) dX2_hour_28 (if_neg c_1)

set_option maxRecDepth 100000 in
set_option maxHeartbeats 4000000 in
theorem c_X2_minute (l : Launch) (G : GT) (b : Nat → Nat) (T : SM) (p0 : Int32) (hT : MO T) : WR l G yX2_minute cX2_minute 2 (some .int) 12 0 0 [.ref (b 0), .int p0] (wM G b T) (wM G b (gX2_minute T p0).2) (some (.int (gX2_minute T p0).1)) := by
  refine WR.ofW (own := RX2) rfl (plainFor_of_name pnN_RX2) (Nat.le_of_ble_eq_true rfl) ?_
  intro p e s m below meth c A C hr hk hnm hE hP hD hA hAB hS ls hl
  have hx := C.1
  have hb := C.2.1
  have hown := C.2.2.2.1
  have hw := C.2.2.2.2
  have hl : lv_has ls 2 [(0, .ref (b 0)), (1, .int p0)] := hl
  refine lv_aload_n hx hb dX2_minute_0 rfl (lv_at hl 0 rfl) ?_
  refine lv_iload_n hx hb dX2_minute_1 rfl (lv_at hl 1 rfl) ?_
  refine rcSi (as := [.int p0]) (rest := [.ref (b 0)]) C (c_X2_isNone l G p0) F_X2_isNone rfl bw1216 bw1217 (hE.S hS hAB) vpn hl.1 dX2_minute_2 ⟨Nat.le_of_ble_eq_true rfl, Nat.le_of_ble_eq_true rfl⟩ rfl (Nat.le_of_ble_eq_true rfl) ⟨Nat.le_of_ble_eq_true rfl, Nat.le_of_ble_eq_true rfl⟩ ?_
  refine lv_iconst (v := (0 : Int32)) hx hb dX2_minute_5 qi_0 ?_
  refine wcVi (as := [.int (fX2_isNone p0), .int (0 : Int32)]) (rest := []) (cl := RX2) C (c_X2_refuses l G b T (fX2_isNone p0) (0 : Int32)) F_X2_refuses rfl bw1219 bw1221 bw33 (hE.S hS hAB) hP hD hS hA hAB (rv4 hE.K hP (q0 := 0) rfl) hl.1 dX2_minute_6 ⟨Nat.le_of_ble_eq_true rfl, Nat.le_of_ble_eq_true rfl⟩ rfl (Nat.le_of_ble_eq_true rfl) ⟨Nat.le_of_ble_eq_true rfl, Nat.le_of_ble_eq_true rfl⟩ (fun H locs hP hD hS => ?_)
  have hP : va_P (gD G) vwCl (wM G b ((fth (fX2_isNone p0) (0 : Int32)), (my T), (mm T), (md T), (mt T), (T.2.2.2.2.2))) H := hP
  have hD : va_D A (wM G b ((fth (fX2_isNone p0) (0 : Int32)), (my T), (mm T), (md T), (mt T), (T.2.2.2.2.2))) := hD
  refine lv_if_eq (tgt := 16) hx hb dX2_minute_9 (by decide) (fun c_1 => ?_) (fun c_1 => ?_)
  · have c_1 := rf_p c_1
    refine lv_aload_n hx hb dX2_minute_16 rfl (lv_at hl 0 rfl) ?_
    refine lv_iload_n hx hb dX2_minute_17 rfl (lv_at hl 1 rfl) ?_
    refine lv_iconst (v := (4 : Int32)) hx hb dX2_minute_18 qi_4 ?_
    refine rcSl (as := [.int (4 : Int32)]) (rest := [.int p0, .ref (b 0)]) C (c_X2_nanosOf l G (4 : Int32)) F_X2_nanosOf rfl bw1354 bw1355 (hE.S hS hAB) vpn hl.1 dX2_minute_19 ⟨Nat.le_of_ble_eq_true rfl, Nat.le_of_ble_eq_true rfl⟩ rfl (Nat.le_of_ble_eq_true rfl) ⟨Nat.le_of_ble_eq_true rfl, Nat.le_of_ble_eq_true rfl⟩ ?_
    refine lv_ldc2 (v := (60 : Int64)) hx hb hown (hw _ bw1237) dX2_minute_22 ?_
    refine rcVi (as := [.int p0, .long (fX2_nanosOf (4 : Int32)), .long (60 : Int64)]) (rest := []) (cl := RX2) C (c_X2_part l G b ((fth (fX2_isNone p0) (0 : Int32)), (my T), (mm T), (md T), (mt T), (T.2.2.2.2.2)) p0 (fX2_nanosOf (4 : Int32)) (60 : Int64) (none_in (frf_a c_1)) (nz_nanosOf (4 : Int32)) (by decide)) F_X2_part rfl bw1476 bw1478 bw45 (hE.S hS hAB) hP (rv4 hE.K hP (q0 := 0) rfl) hl.1 dX2_minute_25 ⟨Nat.le_of_ble_eq_true rfl, Nat.le_of_ble_eq_true rfl⟩ rfl (Nat.le_of_ble_eq_true rfl) ⟨Nat.le_of_ble_eq_true rfl, Nat.le_of_ble_eq_true rfl⟩ ?_
    exact we_i (wf := wM G b) hx hb hr hk hP hD hS (Nat.le_of_ble_eq_true rfl) (Nat.le_of_ble_eq_true rfl) dX2_minute_28 (if_pos c_1)
  · have c_1 := rf_n c_1
    refine lv_iconst (v := (0 : Int32)) hx hb dX2_minute_12 qi_0 ?_
    refine lv_goto (tgt := 28) hx hb dX2_minute_13 (by decide) ?_
    exact we_i (wf := wM G b) hx hb hr hk hP hD hS (Nat.le_of_ble_eq_true rfl) (Nat.le_of_ble_eq_true rfl) dX2_minute_28 (if_neg c_1)

set_option maxRecDepth 100000 in
set_option maxHeartbeats 4000000 in
theorem c_X2_second (l : Launch) (G : GT) (b : Nat → Nat) (T : SM) (p0 : Int32) (hT : MO T) : WR l G yX2_second cX2_second 2 (some .int) 12 0 0 [.ref (b 0), .int p0] (wM G b T) (wM G b (gX2_second T p0).2) (some (.int (gX2_second T p0).1)) := by
  refine WR.ofW (own := RX2) rfl (plainFor_of_name pnN_RX2) (Nat.le_of_ble_eq_true rfl) ?_
  intro p e s m below meth c A C hr hk hnm hE hP hD hA hAB hS ls hl
  have hx := C.1
  have hb := C.2.1
  have hown := C.2.2.2.1
  have hw := C.2.2.2.2
  have hl : lv_has ls 2 [(0, .ref (b 0)), (1, .int p0)] := hl
  refine lv_aload_n hx hb dX2_second_0 rfl (lv_at hl 0 rfl) ?_
  refine lv_iload_n hx hb dX2_second_1 rfl (lv_at hl 1 rfl) ?_
  refine rcSi (as := [.int p0]) (rest := [.ref (b 0)]) C (c_X2_isNone l G p0) F_X2_isNone rfl bw1216 bw1217 (hE.S hS hAB) vpn hl.1 dX2_second_2 ⟨Nat.le_of_ble_eq_true rfl, Nat.le_of_ble_eq_true rfl⟩ rfl (Nat.le_of_ble_eq_true rfl) ⟨Nat.le_of_ble_eq_true rfl, Nat.le_of_ble_eq_true rfl⟩ ?_
  refine lv_iconst (v := (0 : Int32)) hx hb dX2_second_5 qi_0 ?_
  refine wcVi (as := [.int (fX2_isNone p0), .int (0 : Int32)]) (rest := []) (cl := RX2) C (c_X2_refuses l G b T (fX2_isNone p0) (0 : Int32)) F_X2_refuses rfl bw1219 bw1221 bw33 (hE.S hS hAB) hP hD hS hA hAB (rv4 hE.K hP (q0 := 0) rfl) hl.1 dX2_second_6 ⟨Nat.le_of_ble_eq_true rfl, Nat.le_of_ble_eq_true rfl⟩ rfl (Nat.le_of_ble_eq_true rfl) ⟨Nat.le_of_ble_eq_true rfl, Nat.le_of_ble_eq_true rfl⟩ (fun H locs hP hD hS => ?_)
  have hP : va_P (gD G) vwCl (wM G b ((fth (fX2_isNone p0) (0 : Int32)), (my T), (mm T), (md T), (mt T), (T.2.2.2.2.2))) H := hP
  have hD : va_D A (wM G b ((fth (fX2_isNone p0) (0 : Int32)), (my T), (mm T), (md T), (mt T), (T.2.2.2.2.2))) := hD
  refine lv_if_eq (tgt := 16) hx hb dX2_second_9 (by decide) (fun c_1 => ?_) (fun c_1 => ?_)
  · have c_1 := rf_p c_1
    refine lv_aload_n hx hb dX2_second_16 rfl (lv_at hl 0 rfl) ?_
    refine lv_iload_n hx hb dX2_second_17 rfl (lv_at hl 1 rfl) ?_
    refine lv_ldc2 (v := (1000000000 : Int64)) hx hb hown (hw _ bw1238) dX2_second_18 ?_
    refine lv_ldc2 (v := (60 : Int64)) hx hb hown (hw _ bw1237) dX2_second_21 ?_
    refine rcVi (as := [.int p0, .long (1000000000 : Int64), .long (60 : Int64)]) (rest := []) (cl := RX2) C (c_X2_part l G b ((fth (fX2_isNone p0) (0 : Int32)), (my T), (mm T), (md T), (mt T), (T.2.2.2.2.2)) p0 (1000000000 : Int64) (60 : Int64) (none_in (frf_a c_1)) (by decide) (by decide)) F_X2_part rfl bw1476 bw1478 bw45 (hE.S hS hAB) hP (rv4 hE.K hP (q0 := 0) rfl) hl.1 dX2_second_24 ⟨Nat.le_of_ble_eq_true rfl, Nat.le_of_ble_eq_true rfl⟩ rfl (Nat.le_of_ble_eq_true rfl) ⟨Nat.le_of_ble_eq_true rfl, Nat.le_of_ble_eq_true rfl⟩ ?_
    exact we_i (wf := wM G b) hx hb hr hk hP hD hS (Nat.le_of_ble_eq_true rfl) (Nat.le_of_ble_eq_true rfl) dX2_second_27 (if_pos c_1)
  · have c_1 := rf_n c_1
    refine lv_iconst (v := (0 : Int32)) hx hb dX2_second_12 qi_0 ?_
    refine lv_goto (tgt := 27) hx hb dX2_second_13 (by decide) ?_
    exact we_i (wf := wM G b) hx hb hr hk hP hD hS (Nat.le_of_ble_eq_true rfl) (Nat.le_of_ble_eq_true rfl) dX2_second_27 (if_neg c_1)

set_option maxRecDepth 100000 in
set_option maxHeartbeats 4000000 in
theorem c_X2_nano (l : Launch) (G : GT) (b : Nat → Nat) (T : SM) (p0 : Int32) (hT : MO T) : WR l G yX2_nano cX2_nano 2 (some .int) 12 0 0 [.ref (b 0), .int p0] (wM G b T) (wM G b (gX2_nano T p0).2) (some (.int (gX2_nano T p0).1)) := by
  refine WR.ofW (own := RX2) rfl (plainFor_of_name pnN_RX2) (Nat.le_of_ble_eq_true rfl) ?_
  intro p e s m below meth c A C hr hk hnm hE hP hD hA hAB hS ls hl
  have hx := C.1
  have hb := C.2.1
  have hown := C.2.2.2.1
  have hw := C.2.2.2.2
  have hl : lv_has ls 2 [(0, .ref (b 0)), (1, .int p0)] := hl
  refine lv_aload_n hx hb dX2_nano_0 rfl (lv_at hl 0 rfl) ?_
  refine lv_iload_n hx hb dX2_nano_1 rfl (lv_at hl 1 rfl) ?_
  refine rcSi (as := [.int p0]) (rest := [.ref (b 0)]) C (c_X2_isNone l G p0) F_X2_isNone rfl bw1216 bw1217 (hE.S hS hAB) vpn hl.1 dX2_nano_2 ⟨Nat.le_of_ble_eq_true rfl, Nat.le_of_ble_eq_true rfl⟩ rfl (Nat.le_of_ble_eq_true rfl) ⟨Nat.le_of_ble_eq_true rfl, Nat.le_of_ble_eq_true rfl⟩ ?_
  refine lv_iconst (v := (0 : Int32)) hx hb dX2_nano_5 qi_0 ?_
  refine wcVi (as := [.int (fX2_isNone p0), .int (0 : Int32)]) (rest := []) (cl := RX2) C (c_X2_refuses l G b T (fX2_isNone p0) (0 : Int32)) F_X2_refuses rfl bw1219 bw1221 bw33 (hE.S hS hAB) hP hD hS hA hAB (rv4 hE.K hP (q0 := 0) rfl) hl.1 dX2_nano_6 ⟨Nat.le_of_ble_eq_true rfl, Nat.le_of_ble_eq_true rfl⟩ rfl (Nat.le_of_ble_eq_true rfl) ⟨Nat.le_of_ble_eq_true rfl, Nat.le_of_ble_eq_true rfl⟩ (fun H locs hP hD hS => ?_)
  have hP : va_P (gD G) vwCl (wM G b ((fth (fX2_isNone p0) (0 : Int32)), (my T), (mm T), (md T), (mt T), (T.2.2.2.2.2))) H := hP
  have hD : va_D A (wM G b ((fth (fX2_isNone p0) (0 : Int32)), (my T), (mm T), (md T), (mt T), (T.2.2.2.2.2))) := hD
  refine lv_if_eq (tgt := 16) hx hb dX2_nano_9 (by decide) (fun c_1 => ?_) (fun c_1 => ?_)
  · have c_1 := rf_p c_1
    refine lv_aload_n hx hb dX2_nano_16 rfl (lv_at hl 0 rfl) ?_
    refine lv_iload_n hx hb dX2_nano_17 rfl (lv_at hl 1 rfl) ?_
    refine lv_lconst (v := (1 : Int64)) hx hb dX2_nano_18 ql_1 ?_
    refine lv_ldc2 (v := (1000000000 : Int64)) hx hb hown (hw _ bw1238) dX2_nano_19 ?_
    refine rcVi (as := [.int p0, .long (1 : Int64), .long (1000000000 : Int64)]) (rest := []) (cl := RX2) C (c_X2_part l G b ((fth (fX2_isNone p0) (0 : Int32)), (my T), (mm T), (md T), (mt T), (T.2.2.2.2.2)) p0 (1 : Int64) (1000000000 : Int64) (none_in (frf_a c_1)) (by decide) (by decide)) F_X2_part rfl bw1476 bw1478 bw45 (hE.S hS hAB) hP (rv4 hE.K hP (q0 := 0) rfl) hl.1 dX2_nano_22 ⟨Nat.le_of_ble_eq_true rfl, Nat.le_of_ble_eq_true rfl⟩ rfl (Nat.le_of_ble_eq_true rfl) ⟨Nat.le_of_ble_eq_true rfl, Nat.le_of_ble_eq_true rfl⟩ ?_
    exact we_i (wf := wM G b) hx hb hr hk hP hD hS (Nat.le_of_ble_eq_true rfl) (Nat.le_of_ble_eq_true rfl) dX2_nano_25 (if_pos c_1)
  · have c_1 := rf_n c_1
    refine lv_iconst (v := (0 : Int32)) hx hb dX2_nano_12 qi_0 ?_
    refine lv_goto (tgt := 25) hx hb dX2_nano_13 (by decide) ?_
    exact we_i (wf := wM G b) hx hb hr hk hP hD hS (Nat.le_of_ble_eq_true rfl) (Nat.le_of_ble_eq_true rfl) dX2_nano_25 (if_neg c_1)

set_option maxRecDepth 100000 in
set_option maxHeartbeats 4000000 in
theorem c_X2_day (l : Launch) (G : GT) (b : Nat → Nat) (T : SM) (p0 : Int32) (hT : MO T) : WR l G yX2_day cX2_day 2 (some .int) 12 0 0 [.ref (b 0), .int p0] (wM G b T) (wM G b (gX2_day T p0).2) (some (.int (gX2_day T p0).1)) := by
  refine WR.ofW (own := RX2) rfl (plainFor_of_name pnN_RX2) (Nat.le_of_ble_eq_true rfl) ?_
  intro p e s m below meth c A C hr hk hnm hE hP hD hA hAB hS ls hl
  have hx := C.1
  have hb := C.2.1
  have hown := C.2.2.2.1
  have hw := C.2.2.2.2
  have hl : lv_has ls 2 [(0, .ref (b 0)), (1, .int p0)] := hl
  refine lv_aload_n hx hb dX2_day_0 rfl (lv_at hl 0 rfl) ?_
  refine lv_iload_n hx hb dX2_day_1 rfl (lv_at hl 1 rfl) ?_
  refine rcSi (as := [.int p0]) (rest := [.ref (b 0)]) C (c_X2_isNone l G p0) F_X2_isNone rfl bw1216 bw1217 (hE.S hS hAB) vpn hl.1 dX2_day_2 ⟨Nat.le_of_ble_eq_true rfl, Nat.le_of_ble_eq_true rfl⟩ rfl (Nat.le_of_ble_eq_true rfl) ⟨Nat.le_of_ble_eq_true rfl, Nat.le_of_ble_eq_true rfl⟩ ?_
  refine lv_iconst (v := (0 : Int32)) hx hb dX2_day_5 qi_0 ?_
  refine wcVi (as := [.int (fX2_isNone p0), .int (0 : Int32)]) (rest := []) (cl := RX2) C (c_X2_refuses l G b T (fX2_isNone p0) (0 : Int32)) F_X2_refuses rfl bw1219 bw1221 bw33 (hE.S hS hAB) hP hD hS hA hAB (rv4 hE.K hP (q0 := 0) rfl) hl.1 dX2_day_6 ⟨Nat.le_of_ble_eq_true rfl, Nat.le_of_ble_eq_true rfl⟩ rfl (Nat.le_of_ble_eq_true rfl) ⟨Nat.le_of_ble_eq_true rfl, Nat.le_of_ble_eq_true rfl⟩ (fun H locs hP hD hS => ?_)
  have hP : va_P (gD G) vwCl (wM G b ((fth (fX2_isNone p0) (0 : Int32)), (my T), (mm T), (md T), (mt T), (T.2.2.2.2.2))) H := hP
  have hD : va_D A (wM G b ((fth (fX2_isNone p0) (0 : Int32)), (my T), (mm T), (md T), (mt T), (T.2.2.2.2.2))) := hD
  refine lv_if_eq (tgt := 16) hx hb dX2_day_9 (by decide) (fun c_1 => ?_) (fun c_1 => ?_)
  · have c_1 := rf_p c_1
    refine lv_aload_n hx hb dX2_day_16 rfl (lv_at hl 0 rfl) ?_
    refine lv_iload_n hx hb dX2_day_17 rfl (lv_at hl 1 rfl) ?_
    refine rcVl (as := [.int p0]) (rest := []) (cl := RX2) C (c_X2_dayNow l G b ((fth (fX2_isNone p0) (0 : Int32)), (my T), (mm T), (md T), (mt T), (T.2.2.2.2.2)) p0 (none_in (frf_a c_1)) (MO.same hT rfl)) F_X2_dayNow rfl bw1247 bw1249 bw38 (hE.S hS hAB) hP (rv4 hE.K hP (q0 := 0) rfl) hl.1 dX2_day_18 ⟨Nat.le_of_ble_eq_true rfl, Nat.le_of_ble_eq_true rfl⟩ rfl (Nat.le_of_ble_eq_true rfl) ⟨Nat.le_of_ble_eq_true rfl, Nat.le_of_ble_eq_true rfl⟩ ?_
    refine lv_l2i (v := ((fX2_dayNow ((fth (fX2_isNone p0) (0 : Int32)), (my T), (mm T), (md T), (mt T), (T.2.2.2.2.2)) p0).toInt32)) hx hb dX2_day_21 (by first | rfl | decide) ?_
    exact we_i (wf := wM G b) hx hb hr hk hP hD hS (Nat.le_of_ble_eq_true rfl) (Nat.le_of_ble_eq_true rfl) dX2_day_22 (if_pos c_1)
  · have c_1 := rf_n c_1
    refine lv_iconst (v := (0 : Int32)) hx hb dX2_day_12 qi_0 ?_
    refine lv_goto (tgt := 22) hx hb dX2_day_13 (by decide) ?_
    exact we_i (wf := wM G b) hx hb hr hk hP hD hS (Nat.le_of_ble_eq_true rfl) (Nat.le_of_ble_eq_true rfl) dX2_day_22 (if_neg c_1)

set_option maxRecDepth 100000 in
set_option maxHeartbeats 4000000 in
theorem c_X2_secondOfDay (l : Launch) (G : GT) (b : Nat → Nat) (T : SM) (p0 : Int32) (hT : MO T) : WR l G yX2_secondOfDay cX2_secondOfDay 2 (some .int) 12 0 0 [.ref (b 0), .int p0] (wM G b T) (wM G b (gX2_secondOfDay T p0).2) (some (.int (gX2_secondOfDay T p0).1)) := by
  refine WR.ofW (own := RX2) rfl (plainFor_of_name pnN_RX2) (Nat.le_of_ble_eq_true rfl) ?_
  intro p e s m below meth c A C hr hk hnm hE hP hD hA hAB hS ls hl
  have hx := C.1
  have hb := C.2.1
  have hown := C.2.2.2.1
  have hw := C.2.2.2.2
  have hl : lv_has ls 2 [(0, .ref (b 0)), (1, .int p0)] := hl
  refine lv_aload_n hx hb dX2_secondOfDay_0 rfl (lv_at hl 0 rfl) ?_
  refine lv_iload_n hx hb dX2_secondOfDay_1 rfl (lv_at hl 1 rfl) ?_
  refine rcSi (as := [.int p0]) (rest := [.ref (b 0)]) C (c_X2_isNone l G p0) F_X2_isNone rfl bw1216 bw1217 (hE.S hS hAB) vpn hl.1 dX2_secondOfDay_2 ⟨Nat.le_of_ble_eq_true rfl, Nat.le_of_ble_eq_true rfl⟩ rfl (Nat.le_of_ble_eq_true rfl) ⟨Nat.le_of_ble_eq_true rfl, Nat.le_of_ble_eq_true rfl⟩ ?_
  refine lv_iconst (v := (0 : Int32)) hx hb dX2_secondOfDay_5 qi_0 ?_
  refine wcVi (as := [.int (fX2_isNone p0), .int (0 : Int32)]) (rest := []) (cl := RX2) C (c_X2_refuses l G b T (fX2_isNone p0) (0 : Int32)) F_X2_refuses rfl bw1219 bw1221 bw33 (hE.S hS hAB) hP hD hS hA hAB (rv4 hE.K hP (q0 := 0) rfl) hl.1 dX2_secondOfDay_6 ⟨Nat.le_of_ble_eq_true rfl, Nat.le_of_ble_eq_true rfl⟩ rfl (Nat.le_of_ble_eq_true rfl) ⟨Nat.le_of_ble_eq_true rfl, Nat.le_of_ble_eq_true rfl⟩ (fun H locs hP hD hS => ?_)
  have hP : va_P (gD G) vwCl (wM G b ((fth (fX2_isNone p0) (0 : Int32)), (my T), (mm T), (md T), (mt T), (T.2.2.2.2.2))) H := hP
  have hD : va_D A (wM G b ((fth (fX2_isNone p0) (0 : Int32)), (my T), (mm T), (md T), (mt T), (T.2.2.2.2.2))) := hD
  refine lv_if_eq (tgt := 16) hx hb dX2_secondOfDay_9 (by decide) (fun c_1 => ?_) (fun c_1 => ?_)
  · have c_1 := rf_p c_1
    refine lv_aload_n hx hb dX2_secondOfDay_16 rfl (lv_at hl 0 rfl) ?_
    refine lv_iload_n hx hb dX2_secondOfDay_17 rfl (lv_at hl 1 rfl) ?_
    refine lv_ldc2 (v := (1000000000 : Int64)) hx hb hown (hw _ bw1238) dX2_secondOfDay_18 ?_
    refine lv_ldc2 (v := (86400 : Int64)) hx hb hown (hw _ bw1500) dX2_secondOfDay_21 ?_
    refine rcVi (as := [.int p0, .long (1000000000 : Int64), .long (86400 : Int64)]) (rest := []) (cl := RX2) C (c_X2_part l G b ((fth (fX2_isNone p0) (0 : Int32)), (my T), (mm T), (md T), (mt T), (T.2.2.2.2.2)) p0 (1000000000 : Int64) (86400 : Int64) (none_in (frf_a c_1)) (by decide) (by decide)) F_X2_part rfl bw1476 bw1478 bw45 (hE.S hS hAB) hP (rv4 hE.K hP (q0 := 0) rfl) hl.1 dX2_secondOfDay_24 ⟨Nat.le_of_ble_eq_true rfl, Nat.le_of_ble_eq_true rfl⟩ rfl (Nat.le_of_ble_eq_true rfl) ⟨Nat.le_of_ble_eq_true rfl, Nat.le_of_ble_eq_true rfl⟩ ?_
    exact we_i (wf := wM G b) hx hb hr hk hP hD hS (Nat.le_of_ble_eq_true rfl) (Nat.le_of_ble_eq_true rfl) dX2_secondOfDay_27 (if_pos c_1)
  · have c_1 := rf_n c_1
    refine lv_iconst (v := (0 : Int32)) hx hb dX2_secondOfDay_12 qi_0 ?_
    refine lv_goto (tgt := 27) hx hb dX2_secondOfDay_13 (by decide) ?_
    exact we_i (wf := wM G b) hx hb hr hk hP hD hS (Nat.le_of_ble_eq_true rfl) (Nat.le_of_ble_eq_true rfl) dX2_secondOfDay_27 (if_neg c_1)

set_option maxRecDepth 100000 in
set_option maxHeartbeats 4000000 in
theorem c_X2_lengthOfMonth (l : Launch) (G : GT) (b : Nat → Nat) (T : SM) (p0 : Int32) (hT : MO T) : WR l G yX2_lengthOfMonth cX2_lengthOfMonth 2 (some .int) 12 0 0 [.ref (b 0), .int p0] (wM G b T) (wM G b (gX2_lengthOfMonth T p0).2) (some (.int (gX2_lengthOfMonth T p0).1)) := by
  refine WR.ofW (own := RX2) rfl (plainFor_of_name pnN_RX2) (Nat.le_of_ble_eq_true rfl) ?_
  intro p e s m below meth c A C hr hk hnm hE hP hD hA hAB hS ls hl
  have hx := C.1
  have hb := C.2.1
  have hown := C.2.2.2.1
  have hw := C.2.2.2.2
  have hl : lv_has ls 2 [(0, .ref (b 0)), (1, .int p0)] := hl
  refine lv_aload_n hx hb dX2_lengthOfMonth_0 rfl (lv_at hl 0 rfl) ?_
  refine lv_iload_n hx hb dX2_lengthOfMonth_1 rfl (lv_at hl 1 rfl) ?_
  refine rcSi (as := [.int p0]) (rest := [.ref (b 0)]) C (c_X2_isNone l G p0) F_X2_isNone rfl bw1216 bw1217 (hE.S hS hAB) vpn hl.1 dX2_lengthOfMonth_2 ⟨Nat.le_of_ble_eq_true rfl, Nat.le_of_ble_eq_true rfl⟩ rfl (Nat.le_of_ble_eq_true rfl) ⟨Nat.le_of_ble_eq_true rfl, Nat.le_of_ble_eq_true rfl⟩ ?_
  refine lv_iconst (v := (0 : Int32)) hx hb dX2_lengthOfMonth_5 qi_0 ?_
  refine wcVi (as := [.int (fX2_isNone p0), .int (0 : Int32)]) (rest := []) (cl := RX2) C (c_X2_refuses l G b T (fX2_isNone p0) (0 : Int32)) F_X2_refuses rfl bw1219 bw1221 bw33 (hE.S hS hAB) hP hD hS hA hAB (rv4 hE.K hP (q0 := 0) rfl) hl.1 dX2_lengthOfMonth_6 ⟨Nat.le_of_ble_eq_true rfl, Nat.le_of_ble_eq_true rfl⟩ rfl (Nat.le_of_ble_eq_true rfl) ⟨Nat.le_of_ble_eq_true rfl, Nat.le_of_ble_eq_true rfl⟩ (fun H locs hP hD hS => ?_)
  have hP : va_P (gD G) vwCl (wM G b ((fth (fX2_isNone p0) (0 : Int32)), (my T), (mm T), (md T), (mt T), (T.2.2.2.2.2))) H := hP
  have hD : va_D A (wM G b ((fth (fX2_isNone p0) (0 : Int32)), (my T), (mm T), (md T), (mt T), (T.2.2.2.2.2))) := hD
  refine lv_if_eq (tgt := 16) hx hb dX2_lengthOfMonth_9 (by decide) (fun c_1 => ?_) (fun c_1 => ?_)
  · have c_1 := rf_p c_1
    refine lv_aload_n hx hb dX2_lengthOfMonth_16 rfl (lv_at hl 0 rfl) ?_
    refine va_get (D := gD G) (cl := vwCl) (tys := gT G) (ci := 4) (v := .ref (b 1)) (C := RX2) (T := TX2) (N := 12) hx hb hw inB_X2 hown hE.K hP 0 rfl rfl 1 (by decide) (hw _ bw1164) (fun _ h9 => h9) rfl dX2_lengthOfMonth_17 ?_
    refine lv_iload_n hx hb dX2_lengthOfMonth_20 rfl (lv_at hl 1 rfl) ?_
    refine va_iald (tys := gT G) hx hb hE.K hP 1 0 rfl rfl (none_in (frf_a c_1)) dX2_lengthOfMonth_21 ?_
    refine lv_aload_n hx hb dX2_lengthOfMonth_22 rfl (lv_at hl 0 rfl) ?_
    refine va_get (D := gD G) (cl := vwCl) (tys := gT G) (ci := 4) (v := .ref (b 2)) (C := RX2) (T := TX2) (N := 12) hx hb hw inB_X2 hown hE.K hP 0 rfl rfl 2 (by decide) (hw _ bw1165) (fun _ h9 => h9) rfl dX2_lengthOfMonth_23 ?_
    refine lv_iload_n hx hb dX2_lengthOfMonth_26 rfl (lv_at hl 1 rfl) ?_
    refine va_iald (tys := gT G) hx hb hE.K hP 2 0 rfl rfl (none_in (frf_a c_1)) dX2_lengthOfMonth_27 ?_
    refine rcSi (as := [.int ((my T) p0.toNatClampNeg), .int ((mm T) p0.toNatClampNeg)]) (rest := []) C (c_X2_daysOf l G ((my T) p0.toNatClampNeg) ((mm T) p0.toNatClampNeg)) F_X2_daysOf rfl bw1223 bw1224 (hE.S hS hAB) vpn hl.1 dX2_lengthOfMonth_28 ⟨Nat.le_of_ble_eq_true rfl, Nat.le_of_ble_eq_true rfl⟩ rfl (Nat.le_of_ble_eq_true rfl) ⟨Nat.le_of_ble_eq_true rfl, Nat.le_of_ble_eq_true rfl⟩ ?_
    exact we_i (wf := wM G b) hx hb hr hk hP hD hS (Nat.le_of_ble_eq_true rfl) (Nat.le_of_ble_eq_true rfl) dX2_lengthOfMonth_31 (if_pos c_1)
  · have c_1 := rf_n c_1
    refine lv_iconst (v := (0 : Int32)) hx hb dX2_lengthOfMonth_12 qi_0 ?_
    refine lv_goto (tgt := 31) hx hb dX2_lengthOfMonth_13 (by decide) ?_
    exact we_i (wf := wM G b) hx hb hr hk hP hD hS (Nat.le_of_ble_eq_true rfl) (Nat.le_of_ble_eq_true rfl) dX2_lengthOfMonth_31 (if_neg c_1)

set_option maxRecDepth 100000 in
set_option maxHeartbeats 4000000 in
theorem c_X2_isLeap (l : Launch) (G : GT) (b : Nat → Nat) (T : SM) (p0 : Int32) (hT : MO T) : WR l G yX2_isLeap cX2_isLeap 2 (some .boolean) 12 0 0 [.ref (b 0), .int p0] (wM G b T) (wM G b (gX2_isLeap T p0).2) (some (.int (gX2_isLeap T p0).1)) := by
  refine WR.ofW (own := RX2) rfl (plainFor_of_name pnN_RX2) (Nat.le_of_ble_eq_true rfl) ?_
  intro p e s m below meth c A C hr hk hnm hE hP hD hA hAB hS ls hl
  have hx := C.1
  have hb := C.2.1
  have hown := C.2.2.2.1
  have hw := C.2.2.2.2
  have hl : lv_has ls 2 [(0, .ref (b 0)), (1, .int p0)] := hl
  refine lv_aload_n hx hb dX2_isLeap_0 rfl (lv_at hl 0 rfl) ?_
  refine lv_iload_n hx hb dX2_isLeap_1 rfl (lv_at hl 1 rfl) ?_
  refine rcSi (as := [.int p0]) (rest := [.ref (b 0)]) C (c_X2_isNone l G p0) F_X2_isNone rfl bw1216 bw1217 (hE.S hS hAB) vpn hl.1 dX2_isLeap_2 ⟨Nat.le_of_ble_eq_true rfl, Nat.le_of_ble_eq_true rfl⟩ rfl (Nat.le_of_ble_eq_true rfl) ⟨Nat.le_of_ble_eq_true rfl, Nat.le_of_ble_eq_true rfl⟩ ?_
  refine lv_iconst (v := (0 : Int32)) hx hb dX2_isLeap_5 qi_0 ?_
  refine wcVi (as := [.int (fX2_isNone p0), .int (0 : Int32)]) (rest := []) (cl := RX2) C (c_X2_refuses l G b T (fX2_isNone p0) (0 : Int32)) F_X2_refuses rfl bw1219 bw1221 bw33 (hE.S hS hAB) hP hD hS hA hAB (rv4 hE.K hP (q0 := 0) rfl) hl.1 dX2_isLeap_6 ⟨Nat.le_of_ble_eq_true rfl, Nat.le_of_ble_eq_true rfl⟩ rfl (Nat.le_of_ble_eq_true rfl) ⟨Nat.le_of_ble_eq_true rfl, Nat.le_of_ble_eq_true rfl⟩ (fun H locs hP hD hS => ?_)
  have hP : va_P (gD G) vwCl (wM G b ((fth (fX2_isNone p0) (0 : Int32)), (my T), (mm T), (md T), (mt T), (T.2.2.2.2.2))) H := hP
  have hD : va_D A (wM G b ((fth (fX2_isNone p0) (0 : Int32)), (my T), (mm T), (md T), (mt T), (T.2.2.2.2.2))) := hD
  refine lv_if_ne (tgt := 28) hx hb dX2_isLeap_9 (by decide) (fun c_1 => ?_) (fun c_1 => ?_)
  · have c_1 := rf_n c_1
    refine lv_iconst (v := (0 : Int32)) hx hb dX2_isLeap_28 qi_0 ?_
    exact we_z (ty := .boolean) (wf := wM G b) hx hb hr hk (by decide) hP hD hS (Nat.le_of_ble_eq_true rfl) (Nat.le_of_ble_eq_true rfl) dX2_isLeap_29 (if_neg c_1)
  · have c_1 := rf_p c_1
    refine lv_aload_n hx hb dX2_isLeap_12 rfl (lv_at hl 0 rfl) ?_
    refine va_get (D := gD G) (cl := vwCl) (tys := gT G) (ci := 4) (v := .ref (b 1)) (C := RX2) (T := TX2) (N := 12) hx hb hw inB_X2 hown hE.K hP 0 rfl rfl 1 (by decide) (hw _ bw1164) (fun _ h9 => h9) rfl dX2_isLeap_13 ?_
    refine lv_iload_n hx hb dX2_isLeap_16 rfl (lv_at hl 1 rfl) ?_
    refine va_iald (tys := gT G) hx hb hE.K hP 1 0 rfl rfl (none_in (frf_a c_1)) dX2_isLeap_17 ?_
    refine rcSi (as := [.int ((my T) p0.toNatClampNeg)]) (rest := []) C (c_X2_isLeapYear l G ((my T) p0.toNatClampNeg)) F_X2_isLeapYear rfl bw1226 bw1227 (hE.S hS hAB) vpn hl.1 dX2_isLeap_18 ⟨Nat.le_of_ble_eq_true rfl, Nat.le_of_ble_eq_true rfl⟩ rfl (Nat.le_of_ble_eq_true rfl) ⟨Nat.le_of_ble_eq_true rfl, Nat.le_of_ble_eq_true rfl⟩ ?_
    refine lv_if_eq (tgt := 28) hx hb dX2_isLeap_21 (by decide) (fun c_2 => ?_) (fun c_2 => ?_)
    · refine lv_iconst (v := (0 : Int32)) hx hb dX2_isLeap_28 qi_0 ?_
      exact we_z (ty := .boolean) (wf := wM G b) hx hb hr hk (by decide) hP hD hS (Nat.le_of_ble_eq_true rfl) (Nat.le_of_ble_eq_true rfl) dX2_isLeap_29 (Eq.trans (if_pos c_1) (if_pos c_2))
    · refine lv_iconst (v := (1 : Int32)) hx hb dX2_isLeap_24 qi_1 ?_
      refine lv_goto (tgt := 29) hx hb dX2_isLeap_25 (by decide) ?_
      exact we_z (ty := .boolean) (wf := wM G b) hx hb hr hk (by decide) hP hD hS (Nat.le_of_ble_eq_true rfl) (Nat.le_of_ble_eq_true rfl) dX2_isLeap_29 (Eq.trans (if_pos c_1) (if_neg c_2))

set_option maxRecDepth 100000 in
set_option maxHeartbeats 4000000 in
theorem c_X2_compare (l : Launch) (G : GT) (b : Nat → Nat) (T : SM) (p0 : Int32) (p1 : Int32) (hT : MO T) : WR l G yX2_compare cX2_compare 3 (some .int) 12 0 0 [.ref (b 0), .int p0, .int p1] (wM G b T) (wM G b (gX2_compare T p0 p1).2) (some (.int (gX2_compare T p0 p1).1)) := by
  refine WR.ofW (own := RX2) rfl (plainFor_of_name pnN_RX2) (Nat.le_of_ble_eq_true rfl) ?_
  intro p e s m below meth c A C hr hk hnm hE hP hD hA hAB hS ls hl
  have hx := C.1
  have hb := C.2.1
  have hown := C.2.2.2.1
  have hw := C.2.2.2.2
  have hl : lv_has ls 3 [(0, .ref (b 0)), (1, .int p0), (2, .int p1)] := hl
  refine lv_aload_n hx hb dX2_compare_0 rfl (lv_at hl 0 rfl) ?_
  refine lv_iload_n hx hb dX2_compare_1 rfl (lv_at hl 1 rfl) ?_
  refine rcSi (as := [.int p0]) (rest := [.ref (b 0)]) C (c_X2_isNone l G p0) F_X2_isNone rfl bw1216 bw1217 (hE.S hS hAB) vpn hl.1 dX2_compare_2 ⟨Nat.le_of_ble_eq_true rfl, Nat.le_of_ble_eq_true rfl⟩ rfl (Nat.le_of_ble_eq_true rfl) ⟨Nat.le_of_ble_eq_true rfl, Nat.le_of_ble_eq_true rfl⟩ ?_
  refine lv_if_ne (tgt := 15) hx hb dX2_compare_5 (by decide) (fun c_1 => ?_) (fun c_1 => ?_)
  · refine lv_iconst (v := (1 : Int32)) hx hb dX2_compare_15 qi_1 ?_
    refine lv_goto (tgt := 20) hx hb dX2_compare_16 (by decide) ?_
    refine lv_iconst (v := (0 : Int32)) hx hb dX2_compare_20 qi_0 ?_
    refine wcVi (as := [.int (1 : Int32), .int (0 : Int32)]) (rest := []) (cl := RX2) C (c_X2_refuses l G b T (1 : Int32) (0 : Int32)) F_X2_refuses rfl bw1219 bw1221 bw33 (hE.S hS hAB) hP hD hS hA hAB (rv4 hE.K hP (q0 := 0) rfl) hl.1 dX2_compare_21 ⟨Nat.le_of_ble_eq_true rfl, Nat.le_of_ble_eq_true rfl⟩ rfl (Nat.le_of_ble_eq_true rfl) ⟨Nat.le_of_ble_eq_true rfl, Nat.le_of_ble_eq_true rfl⟩ (fun H locs hP hD hS => ?_)
    have hP : va_P (gD G) vwCl (wM G b ((fth (1 : Int32) (0 : Int32)), (my T), (mm T), (md T), (mt T), (T.2.2.2.2.2))) H := hP
    have hD : va_D A (wM G b ((fth (1 : Int32) (0 : Int32)), (my T), (mm T), (md T), (mt T), (T.2.2.2.2.2))) := hD
    refine lv_if_eq (tgt := 31) hx hb dX2_compare_24 (by decide) (fun c_x => absurd c_x (frf_l1 (0 : Int32))) (fun _ => ?_)
    refine lv_iconst (v := (0 : Int32)) hx hb dX2_compare_27 qi_0 ?_
    refine lv_goto (tgt := 37) hx hb dX2_compare_28 (by decide) ?_
    exact we_i (wf := wM G b) hx hb hr hk hP hD hS (Nat.le_of_ble_eq_true rfl) (Nat.le_of_ble_eq_true rfl) dX2_compare_37 (if_neg c_1)
  · refine lv_iload_n hx hb dX2_compare_8 rfl (lv_at hl 2 rfl) ?_
    refine rcSi (as := [.int p1]) (rest := [.ref (b 0)]) C (c_X2_isNone l G p1) F_X2_isNone rfl bw1216 bw1217 (hE.S hS hAB) vpn hl.1 dX2_compare_9 ⟨Nat.le_of_ble_eq_true rfl, Nat.le_of_ble_eq_true rfl⟩ rfl (Nat.le_of_ble_eq_true rfl) ⟨Nat.le_of_ble_eq_true rfl, Nat.le_of_ble_eq_true rfl⟩ ?_
    refine k_dia (b := (fX2_isNone p1) = 0) (x := (0 : Int32)) (y := (1 : Int32)) (Wg := fun z9 => W _ _ _ _ _ _ _ _ _ _ _ _ _ _ _ (F0 m 20 ls (.int z9 :: _))) ?_ (fun t9 f9 => lv_if_eq (tgt := 19) hx hb dX2_compare_12 (by decide) (fun c_x => lv_iconst (v := (0 : Int32)) hx hb dX2_compare_19 qi_0 (t9 c_x)) (fun c_x => lv_iconst (v := (1 : Int32)) hx hb dX2_compare_15 qi_1 (lv_goto (tgt := 20) hx hb dX2_compare_16 (by decide) (f9 c_x))))
    refine lv_iconst (v := (0 : Int32)) hx hb dX2_compare_20 qi_0 ?_
    refine wcVi (as := [.int (if (fX2_isNone p1) = 0 then (0 : Int32) else (1 : Int32)), .int (0 : Int32)]) (rest := []) (cl := RX2) C (c_X2_refuses l G b T (if (fX2_isNone p1) = 0 then (0 : Int32) else (1 : Int32)) (0 : Int32)) F_X2_refuses rfl bw1219 bw1221 bw33 (hE.S hS hAB) hP hD hS hA hAB (rv4 hE.K hP (q0 := 0) rfl) hl.1 dX2_compare_21 ⟨Nat.le_of_ble_eq_true rfl, Nat.le_of_ble_eq_true rfl⟩ rfl (Nat.le_of_ble_eq_true rfl) ⟨Nat.le_of_ble_eq_true rfl, Nat.le_of_ble_eq_true rfl⟩ (fun H locs hP hD hS => ?_)
    have hP : va_P (gD G) vwCl (wM G b ((fth (if (fX2_isNone p1) = 0 then (0 : Int32) else (1 : Int32)) (0 : Int32)), (my T), (mm T), (md T), (mt T), (T.2.2.2.2.2))) H := hP
    have hD : va_D A (wM G b ((fth (if (fX2_isNone p1) = 0 then (0 : Int32) else (1 : Int32)) (0 : Int32)), (my T), (mm T), (md T), (mt T), (T.2.2.2.2.2))) := hD
    refine lv_if_eq (tgt := 31) hx hb dX2_compare_24 (by decide) (fun c_2 => ?_) (fun c_2 => ?_)
    · have c_2 := rf_p c_2
      refine lv_aload_n hx hb dX2_compare_31 rfl (lv_at hl 0 rfl) ?_
      refine lv_iload_n hx hb dX2_compare_32 rfl (lv_at hl 1 rfl) ?_
      refine lv_iload_n hx hb dX2_compare_33 rfl (lv_at hl 2 rfl) ?_
      refine rcVi (as := [.int p0, .int p1]) (rest := []) (cl := RX2) C (c_X2_order l G b ((fth (if (fX2_isNone p1) = 0 then (0 : Int32) else (1 : Int32)) (0 : Int32)), (my T), (mm T), (md T), (mt T), (T.2.2.2.2.2)) p0 p1 (none_in c_1) (none_in (dia0 (frf_a c_2))) (MO.same hT rfl)) F_X2_order rfl bw1561 bw1563 bw48 (hE.S hS hAB) hP (rv4 hE.K hP (q0 := 0) rfl) hl.1 dX2_compare_34 ⟨Nat.le_of_ble_eq_true rfl, Nat.le_of_ble_eq_true rfl⟩ rfl (Nat.le_of_ble_eq_true rfl) ⟨Nat.le_of_ble_eq_true rfl, Nat.le_of_ble_eq_true rfl⟩ ?_
      exact we_i (wf := wM G b) hx hb hr hk hP hD hS (Nat.le_of_ble_eq_true rfl) (Nat.le_of_ble_eq_true rfl) dX2_compare_37 (Eq.trans (if_pos c_1) (if_pos c_2))
    · have c_2 := rf_n c_2
      refine lv_iconst (v := (0 : Int32)) hx hb dX2_compare_27 qi_0 ?_
      refine lv_goto (tgt := 37) hx hb dX2_compare_28 (by decide) ?_
      exact we_i (wf := wM G b) hx hb hr hk hP hD hS (Nat.le_of_ble_eq_true rfl) (Nat.le_of_ble_eq_true rfl) dX2_compare_37 (Eq.trans (if_pos c_1) (if_neg c_2))

set_option maxRecDepth 100000 in
set_option maxHeartbeats 4000000 in
theorem c_X2_isSame (l : Launch) (G : GT) (b : Nat → Nat) (T : SM) (p0 : Int32) (p1 : Int32) (hT : MO T) : WR l G yX2_isSame cX2_isSame 3 (some .boolean) 12 0 0 [.ref (b 0), .int p0, .int p1] (wM G b T) (wM G b (gX2_isSame T p0 p1).2) (some (.int (gX2_isSame T p0 p1).1)) := by
  refine WR.ofW (own := RX2) rfl (plainFor_of_name pnN_RX2) (Nat.le_of_ble_eq_true rfl) ?_
  intro p e s m below meth c A C hr hk hnm hE hP hD hA hAB hS ls hl
  have hx := C.1
  have hb := C.2.1
  have hown := C.2.2.2.1
  have hw := C.2.2.2.2
  have hl : lv_has ls 3 [(0, .ref (b 0)), (1, .int p0), (2, .int p1)] := hl
  refine lv_aload_n hx hb dX2_isSame_0 rfl (lv_at hl 0 rfl) ?_
  refine lv_iload_n hx hb dX2_isSame_1 rfl (lv_at hl 1 rfl) ?_
  refine rcSi (as := [.int p0]) (rest := [.ref (b 0)]) C (c_X2_isNone l G p0) F_X2_isNone rfl bw1216 bw1217 (hE.S hS hAB) vpn hl.1 dX2_isSame_2 ⟨Nat.le_of_ble_eq_true rfl, Nat.le_of_ble_eq_true rfl⟩ rfl (Nat.le_of_ble_eq_true rfl) ⟨Nat.le_of_ble_eq_true rfl, Nat.le_of_ble_eq_true rfl⟩ ?_
  refine lv_if_ne (tgt := 15) hx hb dX2_isSame_5 (by decide) (fun c_1 => ?_) (fun c_1 => ?_)
  · refine lv_iconst (v := (1 : Int32)) hx hb dX2_isSame_15 qi_1 ?_
    refine lv_goto (tgt := 20) hx hb dX2_isSame_16 (by decide) ?_
    refine lv_iconst (v := (0 : Int32)) hx hb dX2_isSame_20 qi_0 ?_
    refine wcVi (as := [.int (1 : Int32), .int (0 : Int32)]) (rest := []) (cl := RX2) C (c_X2_refuses l G b T (1 : Int32) (0 : Int32)) F_X2_refuses rfl bw1219 bw1221 bw33 (hE.S hS hAB) hP hD hS hA hAB (rv4 hE.K hP (q0 := 0) rfl) hl.1 dX2_isSame_21 ⟨Nat.le_of_ble_eq_true rfl, Nat.le_of_ble_eq_true rfl⟩ rfl (Nat.le_of_ble_eq_true rfl) ⟨Nat.le_of_ble_eq_true rfl, Nat.le_of_ble_eq_true rfl⟩ (fun H locs hP hD hS => ?_)
    have hP : va_P (gD G) vwCl (wM G b ((fth (1 : Int32) (0 : Int32)), (my T), (mm T), (md T), (mt T), (T.2.2.2.2.2))) H := hP
    have hD : va_D A (wM G b ((fth (1 : Int32) (0 : Int32)), (my T), (mm T), (md T), (mt T), (T.2.2.2.2.2))) := hD
    refine lv_if_ne (tgt := 40) hx hb dX2_isSame_24 (by decide) (fun _ => ?_) (fun c_x => absurd c_x (frf_l1 (0 : Int32)))
    refine lv_iconst (v := (0 : Int32)) hx hb dX2_isSame_40 qi_0 ?_
    exact we_z (ty := .boolean) (wf := wM G b) hx hb hr hk (by decide) hP hD hS (Nat.le_of_ble_eq_true rfl) (Nat.le_of_ble_eq_true rfl) dX2_isSame_41 (if_neg c_1)
  · refine lv_iload_n hx hb dX2_isSame_8 rfl (lv_at hl 2 rfl) ?_
    refine rcSi (as := [.int p1]) (rest := [.ref (b 0)]) C (c_X2_isNone l G p1) F_X2_isNone rfl bw1216 bw1217 (hE.S hS hAB) vpn hl.1 dX2_isSame_9 ⟨Nat.le_of_ble_eq_true rfl, Nat.le_of_ble_eq_true rfl⟩ rfl (Nat.le_of_ble_eq_true rfl) ⟨Nat.le_of_ble_eq_true rfl, Nat.le_of_ble_eq_true rfl⟩ ?_
    refine k_dia (b := (fX2_isNone p1) = 0) (x := (0 : Int32)) (y := (1 : Int32)) (Wg := fun z9 => W _ _ _ _ _ _ _ _ _ _ _ _ _ _ _ (F0 m 20 ls (.int z9 :: _))) ?_ (fun t9 f9 => lv_if_eq (tgt := 19) hx hb dX2_isSame_12 (by decide) (fun c_x => lv_iconst (v := (0 : Int32)) hx hb dX2_isSame_19 qi_0 (t9 c_x)) (fun c_x => lv_iconst (v := (1 : Int32)) hx hb dX2_isSame_15 qi_1 (lv_goto (tgt := 20) hx hb dX2_isSame_16 (by decide) (f9 c_x))))
    refine lv_iconst (v := (0 : Int32)) hx hb dX2_isSame_20 qi_0 ?_
    refine wcVi (as := [.int (if (fX2_isNone p1) = 0 then (0 : Int32) else (1 : Int32)), .int (0 : Int32)]) (rest := []) (cl := RX2) C (c_X2_refuses l G b T (if (fX2_isNone p1) = 0 then (0 : Int32) else (1 : Int32)) (0 : Int32)) F_X2_refuses rfl bw1219 bw1221 bw33 (hE.S hS hAB) hP hD hS hA hAB (rv4 hE.K hP (q0 := 0) rfl) hl.1 dX2_isSame_21 ⟨Nat.le_of_ble_eq_true rfl, Nat.le_of_ble_eq_true rfl⟩ rfl (Nat.le_of_ble_eq_true rfl) ⟨Nat.le_of_ble_eq_true rfl, Nat.le_of_ble_eq_true rfl⟩ (fun H locs hP hD hS => ?_)
    have hP : va_P (gD G) vwCl (wM G b ((fth (if (fX2_isNone p1) = 0 then (0 : Int32) else (1 : Int32)) (0 : Int32)), (my T), (mm T), (md T), (mt T), (T.2.2.2.2.2))) H := hP
    have hD : va_D A (wM G b ((fth (if (fX2_isNone p1) = 0 then (0 : Int32) else (1 : Int32)) (0 : Int32)), (my T), (mm T), (md T), (mt T), (T.2.2.2.2.2))) := hD
    refine lv_if_ne (tgt := 40) hx hb dX2_isSame_24 (by decide) (fun c_2 => ?_) (fun c_2 => ?_)
    · have c_2 := rf_n c_2
      refine lv_iconst (v := (0 : Int32)) hx hb dX2_isSame_40 qi_0 ?_
      exact we_z (ty := .boolean) (wf := wM G b) hx hb hr hk (by decide) hP hD hS (Nat.le_of_ble_eq_true rfl) (Nat.le_of_ble_eq_true rfl) dX2_isSame_41 (Eq.trans (if_pos c_1) (if_neg c_2))
    · have c_2 := rf_p c_2
      refine lv_aload_n hx hb dX2_isSame_27 rfl (lv_at hl 0 rfl) ?_
      refine lv_iload_n hx hb dX2_isSame_28 rfl (lv_at hl 1 rfl) ?_
      refine lv_iload_n hx hb dX2_isSame_29 rfl (lv_at hl 2 rfl) ?_
      refine rcVi (as := [.int p0, .int p1]) (rest := []) (cl := RX2) C (c_X2_order l G b ((fth (if (fX2_isNone p1) = 0 then (0 : Int32) else (1 : Int32)) (0 : Int32)), (my T), (mm T), (md T), (mt T), (T.2.2.2.2.2)) p0 p1 (none_in c_1) (none_in (dia0 (frf_a c_2))) (MO.same hT rfl)) F_X2_order rfl bw1561 bw1563 bw48 (hE.S hS hAB) hP (rv4 hE.K hP (q0 := 0) rfl) hl.1 dX2_isSame_30 ⟨Nat.le_of_ble_eq_true rfl, Nat.le_of_ble_eq_true rfl⟩ rfl (Nat.le_of_ble_eq_true rfl) ⟨Nat.le_of_ble_eq_true rfl, Nat.le_of_ble_eq_true rfl⟩ ?_
      refine lv_if_ne (tgt := 40) hx hb dX2_isSame_33 (by decide) (fun c_3 => ?_) (fun c_3 => ?_)
      · refine lv_iconst (v := (0 : Int32)) hx hb dX2_isSame_40 qi_0 ?_
        exact we_z (ty := .boolean) (wf := wM G b) hx hb hr hk (by decide) hP hD hS (Nat.le_of_ble_eq_true rfl) (Nat.le_of_ble_eq_true rfl) dX2_isSame_41 (Eq.trans (if_pos c_1) (Eq.trans (if_pos c_2) (if_neg c_3)))
      · refine lv_iconst (v := (1 : Int32)) hx hb dX2_isSame_36 qi_1 ?_
        refine lv_goto (tgt := 41) hx hb dX2_isSame_37 (by decide) ?_
        exact we_z (ty := .boolean) (wf := wM G b) hx hb hr hk (by decide) hP hD hS (Nat.le_of_ble_eq_true rfl) (Nat.le_of_ble_eq_true rfl) dX2_isSame_41 (Eq.trans (if_pos c_1) (Eq.trans (if_pos c_2) (if_pos c_3)))

set_option maxRecDepth 100000 in
set_option maxHeartbeats 4000000 in
theorem c_X2_isSameAs (l : Launch) (G : GT) (b : Nat → Nat) (T : SM) (p0 : Int32) (p1 : Int32) (hT : MO T) : WR l G yX2_isSameAs cX2_isSameAs 3 (some .boolean) 12 0 0 [.ref (b 0), .int p0, .int p1] (wM G b T) (wM G b (gX2_isSameAs T p0 p1).2) (some (.int (gX2_isSameAs T p0 p1).1)) := by
  refine WR.ofW (own := RX2) rfl (plainFor_of_name pnN_RX2) (Nat.le_of_ble_eq_true rfl) ?_
  intro p e s m below meth c A C hr hk hnm hE hP hD hA hAB hS ls hl
  have hx := C.1
  have hb := C.2.1
  have hown := C.2.2.2.1
  have hw := C.2.2.2.2
  have hl : lv_has ls 3 [(0, .ref (b 0)), (1, .int p0), (2, .int p1)] := hl
  refine lv_aload_n hx hb dX2_isSameAs_0 rfl (lv_at hl 0 rfl) ?_
  refine lv_iload_n hx hb dX2_isSameAs_1 rfl (lv_at hl 1 rfl) ?_
  refine rcSi (as := [.int p0]) (rest := [.ref (b 0)]) C (c_X2_isNone l G p0) F_X2_isNone rfl bw1216 bw1217 (hE.S hS hAB) vpn hl.1 dX2_isSameAs_2 ⟨Nat.le_of_ble_eq_true rfl, Nat.le_of_ble_eq_true rfl⟩ rfl (Nat.le_of_ble_eq_true rfl) ⟨Nat.le_of_ble_eq_true rfl, Nat.le_of_ble_eq_true rfl⟩ ?_
  refine lv_iconst (v := (0 : Int32)) hx hb dX2_isSameAs_5 qi_0 ?_
  refine lv_iconst (v := (4 : Int32)) hx hb dX2_isSameAs_6 qi_4 ?_
  refine lv_iload_n hx hb dX2_isSameAs_7 rfl (lv_at hl 2 rfl) ?_
  refine rcSi (as := [.int (0 : Int32), .int (4 : Int32), .int p1]) (rest := [.int (fX2_isNone p0), .ref (b 0)]) C (c_X2_isFrom l G (0 : Int32) (4 : Int32) p1) F_X2_isFrom rfl bw1208 bw1209 (hE.S hS hAB) vpn hl.1 dX2_isSameAs_8 ⟨Nat.le_of_ble_eq_true rfl, Nat.le_of_ble_eq_true rfl⟩ rfl (Nat.le_of_ble_eq_true rfl) ⟨Nat.le_of_ble_eq_true rfl, Nat.le_of_ble_eq_true rfl⟩ ?_
  refine k_dia (b := (fX2_isFrom (0 : Int32) (4 : Int32) p1) = 0) (x := (1 : Int32)) (y := (0 : Int32)) (Wg := fun z9 => W _ _ _ _ _ _ _ _ _ _ _ _ _ _ _ (F0 m 19 ls (.int z9 :: _))) ?_ (fun t9 f9 => lv_if_ne (tgt := 18) hx hb dX2_isSameAs_11 (by decide) (fun c_x => lv_iconst (v := (0 : Int32)) hx hb dX2_isSameAs_18 qi_0 (f9 c_x)) (fun c_x => lv_iconst (v := (1 : Int32)) hx hb dX2_isSameAs_14 qi_1 (lv_goto (tgt := 19) hx hb dX2_isSameAs_15 (by decide) (t9 c_x))))
  refine wcVi (as := [.int (fX2_isNone p0), .int (if (fX2_isFrom (0 : Int32) (4 : Int32) p1) = 0 then (1 : Int32) else (0 : Int32))]) (rest := []) (cl := RX2) C (c_X2_refuses l G b T (fX2_isNone p0) (if (fX2_isFrom (0 : Int32) (4 : Int32) p1) = 0 then (1 : Int32) else (0 : Int32))) F_X2_refuses rfl bw1219 bw1221 bw33 (hE.S hS hAB) hP hD hS hA hAB (rv4 hE.K hP (q0 := 0) rfl) hl.1 dX2_isSameAs_19 ⟨Nat.le_of_ble_eq_true rfl, Nat.le_of_ble_eq_true rfl⟩ rfl (Nat.le_of_ble_eq_true rfl) ⟨Nat.le_of_ble_eq_true rfl, Nat.le_of_ble_eq_true rfl⟩ (fun H locs hP hD hS => ?_)
  have hP : va_P (gD G) vwCl (wM G b ((fth (fX2_isNone p0) (if (fX2_isFrom (0 : Int32) (4 : Int32) p1) = 0 then (1 : Int32) else (0 : Int32))), (my T), (mm T), (md T), (mt T), (T.2.2.2.2.2))) H := hP
  have hD : va_D A (wM G b ((fth (fX2_isNone p0) (if (fX2_isFrom (0 : Int32) (4 : Int32) p1) = 0 then (1 : Int32) else (0 : Int32))), (my T), (mm T), (md T), (mt T), (T.2.2.2.2.2))) := hD
  refine lv_if_ne (tgt := 34) hx hb dX2_isSameAs_22 (by decide) (fun c_1 => ?_) (fun c_1 => ?_)
  · have c_1 := rf_n c_1
    refine lv_iconst (v := (0 : Int32)) hx hb dX2_isSameAs_34 qi_0 ?_
    exact we_z (ty := .boolean) (wf := wM G b) hx hb hr hk (by decide) hP hD hS (Nat.le_of_ble_eq_true rfl) (Nat.le_of_ble_eq_true rfl) dX2_isSameAs_35 (if_neg c_1)
  · have c_1 := rf_p c_1
    refine lv_iload_n hx hb dX2_isSameAs_25 rfl (lv_at hl 2 rfl) ?_
    refine lv_iconst (v := (2 : Int32)) hx hb dX2_isSameAs_26 qi_2 ?_
    refine lv_icmp_le (tgt := 34) hx hb dX2_isSameAs_27 (by decide) (fun c_2 => ?_) (fun c_2 => ?_)
    · refine lv_iconst (v := (0 : Int32)) hx hb dX2_isSameAs_34 qi_0 ?_
      exact we_z (ty := .boolean) (wf := wM G b) hx hb hr hk (by decide) hP hD hS (Nat.le_of_ble_eq_true rfl) (Nat.le_of_ble_eq_true rfl) dX2_isSameAs_35 (Eq.trans (if_pos c_1) (if_pos c_2))
    · refine lv_iconst (v := (1 : Int32)) hx hb dX2_isSameAs_30 qi_1 ?_
      refine lv_goto (tgt := 35) hx hb dX2_isSameAs_31 (by decide) ?_
      exact we_z (ty := .boolean) (wf := wM G b) hx hb hr hk (by decide) hP hD hS (Nat.le_of_ble_eq_true rfl) (Nat.le_of_ble_eq_true rfl) dX2_isSameAs_35 (Eq.trans (if_pos c_1) (if_neg c_2))

set_option maxRecDepth 100000 in
set_option maxHeartbeats 4000000 in
theorem c_X2_house (l : Launch) (G : GT) (b : Nat → Nat) (T : SM) (p0 : Int32) (hT : MO T) : WR l G yX2_house cX2_house 2 (some .int) 12 0 0 [.ref (b 0), .int p0] (wM G b T) (wM G b (gX2_house T p0).2) (some (.int (gX2_house T p0).1)) := by
  refine WR.ofW (own := RX2) rfl (plainFor_of_name pnN_RX2) (Nat.le_of_ble_eq_true rfl) ?_
  intro p e s m below meth c A C hr hk hnm hE hP hD hA hAB hS ls hl
  have hx := C.1
  have hb := C.2.1
  have hown := C.2.2.2.1
  have hw := C.2.2.2.2
  have hl : lv_has ls 2 [(0, .ref (b 0)), (1, .int p0)] := hl
  refine lv_aload_n hx hb dX2_house_0 rfl (lv_at hl 0 rfl) ?_
  refine lv_iconst (v := (0 : Int32)) hx hb dX2_house_1 qi_0 ?_
  refine lv_iconst (v := (5 : Int32)) hx hb dX2_house_2 qi_5 ?_
  refine lv_iload_n hx hb dX2_house_3 rfl (lv_at hl 1 rfl) ?_
  refine rcSi (as := [.int (0 : Int32), .int (5 : Int32), .int p0]) (rest := [.ref (b 0)]) C (c_X2_isFrom l G (0 : Int32) (5 : Int32) p0) F_X2_isFrom rfl bw1208 bw1209 (hE.S hS hAB) vpn hl.1 dX2_house_4 ⟨Nat.le_of_ble_eq_true rfl, Nat.le_of_ble_eq_true rfl⟩ rfl (Nat.le_of_ble_eq_true rfl) ⟨Nat.le_of_ble_eq_true rfl, Nat.le_of_ble_eq_true rfl⟩ ?_
  refine k_dia (b := (fX2_isFrom (0 : Int32) (5 : Int32) p0) = 0) (x := (1 : Int32)) (y := (0 : Int32)) (Wg := fun z9 => W _ _ _ _ _ _ _ _ _ _ _ _ _ _ _ (F0 m 15 ls (.int z9 :: _))) ?_ (fun t9 f9 => lv_if_eq (tgt := 14) hx hb dX2_house_7 (by decide) (fun c_x => lv_iconst (v := (1 : Int32)) hx hb dX2_house_14 qi_1 (t9 c_x)) (fun c_x => lv_iconst (v := (0 : Int32)) hx hb dX2_house_10 qi_0 (lv_goto (tgt := 15) hx hb dX2_house_11 (by decide) (f9 c_x))))
  refine va_put (D := gD G) (cl := vwCl) (tys := gT G) (ci := 4) (v := .int (if (fX2_isFrom (0 : Int32) (5 : Int32) p0) = 0 then (1 : Int32) else (0 : Int32))) (ty := .int) (C := RX2) (T := TX2) (N := 12) hx hb hw inB_X2 tyX2 tyX2_ok nmX2 hown hE.K hP hD hS 0 rfl rfl 0 (by decide) (hw _ bw1163) (fun _ h9 => h9) rfl (by decide +kernel) rfl rfl (Nat.le_of_ble_eq_true rfl) dX2_house_15 (fun H locs hP hD hS => ?_)
  have hP : va_P (gD G) vwCl (wM G b ((if (fX2_isFrom (0 : Int32) (5 : Int32) p0) = 0 then (1 : Int32) else (0 : Int32)), (my T), (mm T), (md T), (mt T), (T.2.2.2.2.2))) H := hP
  have hD : va_D A (wM G b ((if (fX2_isFrom (0 : Int32) (5 : Int32) p0) = 0 then (1 : Int32) else (0 : Int32)), (my T), (mm T), (md T), (mt T), (T.2.2.2.2.2))) := hD
  refine lv_aload_n hx hb dX2_house_18 rfl (lv_at hl 0 rfl) ?_
  refine va_get (D := gD G) (cl := vwCl) (tys := gT G) (ci := 4) (v := .int (if (fX2_isFrom (0 : Int32) (5 : Int32) p0) = 0 then (1 : Int32) else (0 : Int32))) (C := RX2) (T := TX2) (N := 12) hx hb hw inB_X2 hown hE.K hP 0 rfl rfl 0 (by decide) (hw _ bw1163) (fun _ h9 => h9) rfl dX2_house_19 ?_
  refine lv_if_le (tgt := 29) hx hb dX2_house_22 (by decide) (fun c_1 => ?_) (fun c_1 => ?_)
  · refine lv_aload_n hx hb dX2_house_29 rfl (lv_at hl 0 rfl) ?_
    refine lv_iload_n hx hb dX2_house_30 rfl (lv_at hl 1 rfl) ?_
    refine rcVi (as := [.int p0]) (rest := []) (cl := RX2) C (c_X2_houseNow l G b ((if (fX2_isFrom (0 : Int32) (5 : Int32) p0) = 0 then (1 : Int32) else (0 : Int32)), (my T), (mm T), (md T), (mt T), (T.2.2.2.2.2)) p0 (MO.same hT rfl)) F_X2_houseNow rfl bw1604 bw1606 bw53 (hE.S hS hAB) hP (rv4 hE.K hP (q0 := 0) rfl) hl.1 dX2_house_31 ⟨Nat.le_of_ble_eq_true rfl, Nat.le_of_ble_eq_true rfl⟩ rfl (Nat.le_of_ble_eq_true rfl) ⟨Nat.le_of_ble_eq_true rfl, Nat.le_of_ble_eq_true rfl⟩ ?_
    exact we_i (wf := wM G b) hx hb hr hk hP hD hS (Nat.le_of_ble_eq_true rfl) (Nat.le_of_ble_eq_true rfl) dX2_house_34 (if_pos c_1)
  · refine lv_iconst (v := (0 : Int32)) hx hb dX2_house_25 qi_0 ?_
    refine lv_goto (tgt := 34) hx hb dX2_house_26 (by decide) ?_
    exact we_i (wf := wM G b) hx hb hr hk hP hD hS (Nat.le_of_ble_eq_true rfl) (Nat.le_of_ble_eq_true rfl) dX2_house_34 (if_neg c_1)

set_option maxRecDepth 100000 in
set_option maxHeartbeats 4000000 in
theorem c_X2_knock (l : Launch) (G : GT) (b : Nat → Nat) (T : SM) (hT : MO T) : WR l G yX2_knock cX2_knock 1 (some .int) 12 0 0 [.ref (b 0)] (wM G b T) (wM G b (gX2_knock T).2) (some (.int (gX2_knock T).1)) := by
  refine WR.ofW (own := RX2) rfl (plainFor_of_name pnN_RX2) (Nat.le_of_ble_eq_true rfl) ?_
  intro p e s m below meth c A C hr hk hnm hE hP hD hA hAB hS ls hl
  have hx := C.1
  have hb := C.2.1
  have hown := C.2.2.2.1
  have hw := C.2.2.2.2
  have hl : lv_has ls 1 [(0, .ref (b 0))] := hl
  refine lv_aload_n hx hb dX2_knock_0 rfl (lv_at hl 0 rfl) ?_
  refine lv_iconst (v := (0 : Int32)) hx hb dX2_knock_1 qi_0 ?_
  refine va_put (D := gD G) (cl := vwCl) (tys := gT G) (ci := 4) (v := .int (0 : Int32)) (ty := .int) (C := RX2) (T := TX2) (N := 12) hx hb hw inB_X2 tyX2 tyX2_ok nmX2 hown hE.K hP hD hS 0 rfl rfl 0 (by decide) (hw _ bw1163) (fun _ h9 => h9) rfl (by decide +kernel) rfl rfl (Nat.le_of_ble_eq_true rfl) dX2_knock_2 (fun H locs hP hD hS => ?_)
  have hP : va_P (gD G) vwCl (wM G b ((0 : Int32), (my T), (mm T), (md T), (mt T), (T.2.2.2.2.2))) H := hP
  have hD : va_D A (wM G b ((0 : Int32), (my T), (mm T), (md T), (mt T), (T.2.2.2.2.2))) := hD
  refine lv_aload_n hx hb dX2_knock_5 rfl (lv_at hl 0 rfl) ?_
  refine lv_dup hx hb dX2_knock_6 rfl ?_
  refine va_get (D := gD G) (cl := vwCl) (tys := gT G) (ci := 4) (v := .int (mi T 6)) (C := RX2) (T := TX2) (N := 12) hx hb hw inB_X2 hown hE.K hP 0 rfl rfl 11 (by decide) (hw _ bw1174) (fun _ h9 => h9) rfl dX2_knock_7 ?_
  refine lv_iconst (v := (1 : Int32)) hx hb dX2_knock_10 qi_1 ?_
  refine lv_iadd hx hb dX2_knock_11 ?_
  refine lv_dup_x1 hx hb dX2_knock_12 rfl rfl ?_
  refine va_put (D := gD G) (cl := vwCl) (tys := gT G) (ci := 4) (v := .int ((mi T 6) + (1 : Int32))) (ty := .int) (C := RX2) (T := TX2) (N := 12) hx hb hw inB_X2 tyX2 tyX2_ok nmX2 hown hE.K hP hD hS 0 rfl rfl 11 (by decide) (hw _ bw1174) (fun _ h9 => h9) rfl (by decide +kernel) rfl rfl (Nat.le_of_ble_eq_true rfl) dX2_knock_13 (fun H locs hP hD hS => ?_)
  have hP : va_P (gD G) vwCl (wM G b ((0 : Int32), (my T), (mm T), (md T), (mt T), (upd (T.2.2.2.2.2) 6 ((mi T 6) + (1 : Int32))))) H := hP
  have hD : va_D A (wM G b ((0 : Int32), (my T), (mm T), (md T), (mt T), (upd (T.2.2.2.2.2) 6 ((mi T 6) + (1 : Int32))))) := hD
  exact we_i (wf := wM G b) hx hb hr hk hP hD hS (Nat.le_of_ble_eq_true rfl) (Nat.le_of_ble_eq_true rfl) dX2_knock_16 rfl

set_option maxRecDepth 100000 in
set_option maxHeartbeats 4000000 in
theorem c_X2_isSound (l : Launch) (G : GT) (b : Nat → Nat) (T : SM) (hT : MO T) : WR l G yX2_isSound cX2_isSound 1 (some .boolean) 12 0 0 [.ref (b 0)] (wM G b T) (wM G b (gX2_isSound T).2) (some (.int (gX2_isSound T).1)) := by
  refine WR.ofW (own := RX2) rfl (plainFor_of_name pnN_RX2) (Nat.le_of_ble_eq_true rfl) ?_
  intro p e s m below meth c A C hr hk hnm hE hP hD hA hAB hS ls hl
  have hx := C.1
  have hb := C.2.1
  have hown := C.2.2.2.1
  have hw := C.2.2.2.2
  have hl : lv_has ls 1 [(0, .ref (b 0))] := hl
  refine lv_aload_n hx hb dX2_isSound_0 rfl (lv_at hl 0 rfl) ?_
  refine lv_iconst (v := (0 : Int32)) hx hb dX2_isSound_1 qi_0 ?_
  refine va_put (D := gD G) (cl := vwCl) (tys := gT G) (ci := 4) (v := .int (0 : Int32)) (ty := .int) (C := RX2) (T := TX2) (N := 12) hx hb hw inB_X2 tyX2 tyX2_ok nmX2 hown hE.K hP hD hS 0 rfl rfl 0 (by decide) (hw _ bw1163) (fun _ h9 => h9) rfl (by decide +kernel) rfl rfl (Nat.le_of_ble_eq_true rfl) dX2_isSound_2 (fun H locs hP hD hS => ?_)
  have hP : va_P (gD G) vwCl (wM G b ((0 : Int32), (my T), (mm T), (md T), (mt T), (T.2.2.2.2.2))) H := hP
  have hD : va_D A (wM G b ((0 : Int32), (my T), (mm T), (md T), (mt T), (T.2.2.2.2.2))) := hD
  refine lv_iconst (v := (1 : Int32)) hx hb dX2_isSound_5 qi_1 ?_
  exact we_z (ty := .boolean) (wf := wM G b) hx hb hr hk (by decide) hP hD hS (Nat.le_of_ble_eq_true rfl) (Nat.le_of_ble_eq_true rfl) dX2_isSound_6 rfl
