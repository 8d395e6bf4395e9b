theorem HU_imp {l : Launch} {G : GT} {y : MethodName} {b : ByteArray} {maxL : Nat} {hh : HH} {k mc ms : Nat} {as : List Value} {wd : va_W} {P P' : Option Value → va_W → Prop} (h : HU l G y b maxL hh k mc ms as wd P) (hp : ∀ r w, P r w → P' r w) : HU l G y b maxL hh k mc ms as wd P' := by
  have : P = fun r w => P r w := rfl
  intro sz
  exact MetFree.mono (h sz) (fun _ _ z => z) (fun _ _ _ _ _ z => z) (fun _ _ _ _ _ z => by
    obtain ⟨⟨r, w, q1, q2, q3⟩, q4⟩ := z
    exact ⟨⟨r, w, q1, hp r w q2, q3⟩, q4⟩)

set_option maxRecDepth 100000 in
set_option maxHeartbeats 4000000 in
theorem hT_nanoOfDay (l : Launch) (G : GT) (a : Nat → Nat) (o : Nat) (n : Int64) (sv : Value) (S : SX) (p0 : Int32) (h0 : vp_in p0 6) : HU l G yL_nanoOfDay cL_nanoOfDay 4 [(0, 9, 12, 25)] 12 30 800 [.ref (a 0), .int p0, .ref o] (wH G a o n sv S) (fun r wd => r = some (.int (0 : Int32)) ∧ ∃ (q : Nat) (ws : va_W), wd = wH G a o n (.ref q) (gX0_nanoOfDay S p0) ++ ws ∧ TXO G q (oX0_nanoOfDay S p0) ws) := by
  refine HU.ofW (own := RL) rfl pnN_RL (Nat.le_of_ble_eq_true rfl) ?_
  intro p e s m below meth c A C hr hk hT hN hE hP hD hA hAB hS ls hl
  have hx := C.1
  have hb := C.2.1
  have hown := C.2.2.2.1
  have hw := C.2.2.2.2
  have hl : lv_has ls 4 [(0, .ref (a 0)), (1, .int p0), (2, .ref o)] := hl
  have hPX : va_P (gD G) vwCl (wX G a S) s.heap := P_tail hP
  refine lv_aload_n hx hb dL_nanoOfDay_0 rfl (lv_at hl 2 rfl) ?_
  refine lv_aload_n hx hb dL_nanoOfDay_1 rfl (lv_at hl 0 rfl) ?_
  refine lv_iload_n hx hb dL_nanoOfDay_2 rfl (lv_at hl 1 rfl) ?_
  refine weVf (wr := [(o, .inr (3, [.long n, sv]))]) (wd := (wX G a S)) (as := [.int p0]) (rest := [.ref o]) (cl := RX0) C (t_nanoOfDay l G a S p0 h0) F_X0_nanoOfDay rfl bw770 bw771 (hw _ bw772) hE hP hD hS hA hAB (rv2 hE.K hPX (q0 := 0) rfl) hl.1 dL_nanoOfDay_3 ⟨Nat.le_of_ble_eq_true rfl, Nat.le_of_ble_eq_true rfl⟩ rfl (Nat.le_of_ble_eq_true rfl) ⟨Nat.le_of_ble_eq_true rfl, Nat.le_of_ble_eq_true rfl⟩ (fun r9 wd9 H locs hp9 hP hD hS => ?_)
  obtain ⟨q9, ws9, rfl, rfl, ht9⟩ := hp9
  have hP : va_P (gD G) vwCl ((wH G a o n sv (gX0_nanoOfDay S p0)) ++ ws9) H := hP
  have hD : va_D A ((wH G a o n sv (gX0_nanoOfDay S p0)) ++ ws9) := hD
  refine W.eq (g2 := F0 m 6 ls [.ref q9, .ref o]) rfl ?_
  refine va_putN (D := gD G) (cl := vwCl) (tys := gT G) (ci := 3) (v := .ref q9) (ty := .object "java/lang/String") (C := RX1) (T := TX1) (N := 2) hx hb hw inB_X1 tyX1 tyX1_ok nmX1 hown hE.K hP hD hS 0 rfl rfl 1 (by decide) (va_Nw.use rfl hN.2.2) (fun _ h9 => h9) rfl (by first | decide +kernel | rfl) rfl rfl (Nat.le_of_ble_eq_true rfl) dL_nanoOfDay_6 (fun H locs hP hD hS => ?_)
  have hP : va_P (gD G) vwCl ((wH G a o n (.ref q9) (gX0_nanoOfDay S p0)) ++ ws9) H := hP
  have hD : va_D A ((wH G a o n (.ref q9) (gX0_nanoOfDay S p0)) ++ ws9) := hD
  refine lv_goto (tgt := 15) hx hb dL_nanoOfDay_9 (by decide) ?_
  refine lv_iconst (v := (0 : Int32)) hx hb dL_nanoOfDay_15 qi_0 ?_
  exact weN hx hb hr hk ⟨rfl, q9, ws9, rfl, ht9⟩ hP hD hS (Nat.le_of_ble_eq_true rfl) (Nat.le_of_ble_eq_true rfl) dL_nanoOfDay_16

set_option maxRecDepth 100000 in
set_option maxHeartbeats 4000000 in
theorem hT_field (l : Launch) (G : GT) (a : Nat → Nat) (o : Nat) (n : Int64) (sv : Value) (S : SX) (p0 : Int32) (p1 : Int32) (h0 : vp_in p0 6) (r1 : ¬ p1 < (0 : Int32)) (q1 : p1 ≤ (27 : Int32)) : HU l G yL_field cL_field 5 [(0, 10, 13, 25), (0, 10, 17, 19)] 12 30 800 [.ref (a 0), .int p0, .int p1, .ref o] (wH G a o n sv S) (fun r wd => r = some (.int (0 : Int32)) ∧ ∃ (q : Nat) (ws : va_W), wd = wH G a o n (.ref q) (gX0_field S p0 p1) ++ ws ∧ TXO G q (oX0_field S p0 p1) ws) := by
  refine HU.ofW (own := RL) rfl pnN_RL (Nat.le_of_ble_eq_true rfl) ?_
  intro p e s m below meth c A C hr hk hT hN hE hP hD hA hAB hS ls hl
  have hx := C.1
  have hb := C.2.1
  have hown := C.2.2.2.1
  have hw := C.2.2.2.2
  have hl : lv_has ls 5 [(0, .ref (a 0)), (1, .int p0), (2, .int p1), (3, .ref o)] := hl
  have hPX : va_P (gD G) vwCl (wX G a S) s.heap := P_tail hP
  refine lv_aload_n hx hb dL_field_0 rfl (lv_at hl 3 rfl) ?_
  refine lv_aload_n hx hb dL_field_1 rfl (lv_at hl 0 rfl) ?_
  refine lv_iload_n hx hb dL_field_2 rfl (lv_at hl 1 rfl) ?_
  refine lv_iload_n hx hb dL_field_3 rfl (lv_at hl 2 rfl) ?_
  refine weVf (wr := [(o, .inr (3, [.long n, sv]))]) (wd := (wX G a S)) (as := [.int p0, .int p1]) (rest := [.ref o]) (cl := RX0) C (t_field l G a S p0 p1 h0 r1 q1) F_X0_field rfl bw1084 bw1085 (hw _ bw1086) hE hP hD hS hA hAB (rv2 hE.K hPX (q0 := 0) rfl) hl.1 dL_field_4 ⟨Nat.le_of_ble_eq_true rfl, Nat.le_of_ble_eq_true rfl⟩ rfl (Nat.le_of_ble_eq_true rfl) ⟨Nat.le_of_ble_eq_true rfl, Nat.le_of_ble_eq_true rfl⟩ (fun r9 wd9 H locs hp9 hP hD hS => ?_)
  obtain ⟨q9, ws9, rfl, rfl, ht9⟩ := hp9
  have hP : va_P (gD G) vwCl ((wH G a o n sv (gX0_field S p0 p1)) ++ ws9) H := hP
  have hD : va_D A ((wH G a o n sv (gX0_field S p0 p1)) ++ ws9) := hD
  refine W.eq (g2 := F0 m 7 ls [.ref q9, .ref o]) rfl ?_
  refine va_putN (D := gD G) (cl := vwCl) (tys := gT G) (ci := 3) (v := .ref q9) (ty := .object "java/lang/String") (C := RX1) (T := TX1) (N := 2) hx hb hw inB_X1 tyX1 tyX1_ok nmX1 hown hE.K hP hD hS 0 rfl rfl 1 (by decide) (va_Nw.use rfl hN.2.2) (fun _ h9 => h9) rfl (by first | decide +kernel | rfl) rfl rfl (Nat.le_of_ble_eq_true rfl) dL_field_7 (fun H locs hP hD hS => ?_)
  have hP : va_P (gD G) vwCl ((wH G a o n (.ref q9) (gX0_field S p0 p1)) ++ ws9) H := hP
  have hD : va_D A ((wH G a o n (.ref q9) (gX0_field S p0 p1)) ++ ws9) := hD
  refine lv_goto (tgt := 21) hx hb dL_field_10 (by decide) ?_
  refine lv_iconst (v := (0 : Int32)) hx hb dL_field_21 qi_0 ?_
  exact weN hx hb hr hk ⟨rfl, q9, ws9, rfl, ht9⟩ hP hD hS (Nat.le_of_ble_eq_true rfl) (Nat.le_of_ble_eq_true rfl) dL_field_22

set_option maxRecDepth 100000 in
set_option maxHeartbeats 4000000 in
theorem hT_between (l : Launch) (G : GT) (a : Nat → Nat) (o : Nat) (n : Int64) (sv : Value) (S : SX) (p0 : Int32) (p1 : Int32) (p2 : Int32) (h0 : vp_in p0 6) (h1 : vp_in p1 6) (r2 : ¬ p2 < (0 : Int32)) (q2 : p2 ≤ (13 : Int32)) : HU l G yL_between cL_between 6 [(0, 12, 15, 25), (0, 12, 19, 19)] 12 30 800 [.ref (a 0), .int p0, .int p1, .int p2, .ref o] (wH G a o n sv S) (fun r wd => r = some (.int (0 : Int32)) ∧ ∃ (q : Nat) (ws : va_W), wd = wH G a o n (.ref q) (gX0_between S p0 p1 p2) ++ ws ∧ TXO G q (oX0_between S p0 p1 p2) ws) := by
  refine HU.ofW (own := RL) rfl pnN_RL (Nat.le_of_ble_eq_true rfl) ?_
  intro p e s m below meth c A C hr hk hT hN hE hP hD hA hAB hS ls hl
  have hx := C.1
  have hb := C.2.1
  have hown := C.2.2.2.1
  have hw := C.2.2.2.2
  have hl : lv_has ls 6 [(0, .ref (a 0)), (1, .int p0), (2, .int p1), (3, .int p2), (4, .ref o)] := hl
  have hPX : va_P (gD G) vwCl (wX G a S) s.heap := P_tail hP
  refine lv_aload hx hb dL_between_0 (lv_at hl 4 rfl) ?_
  refine lv_aload_n hx hb dL_between_2 rfl (lv_at hl 0 rfl) ?_
  refine lv_iload_n hx hb dL_between_3 rfl (lv_at hl 1 rfl) ?_
  refine lv_iload_n hx hb dL_between_4 rfl (lv_at hl 2 rfl) ?_
  refine lv_iload_n hx hb dL_between_5 rfl (lv_at hl 3 rfl) ?_
  refine weVf (wr := [(o, .inr (3, [.long n, sv]))]) (wd := (wX G a S)) (as := [.int p0, .int p1, .int p2]) (rest := [.ref o]) (cl := RX0) C (t_between l G a S p0 p1 p2 h0 h1 r2 q2) F_X0_between rfl bw1121 bw1122 (hw _ bw1123) hE hP hD hS hA hAB (rv2 hE.K hPX (q0 := 0) rfl) hl.1 dL_between_6 ⟨Nat.le_of_ble_eq_true rfl, Nat.le_of_ble_eq_true rfl⟩ rfl (Nat.le_of_ble_eq_true rfl) ⟨Nat.le_of_ble_eq_true rfl, Nat.le_of_ble_eq_true rfl⟩ (fun r9 wd9 H locs hp9 hP hD hS => ?_)
  obtain ⟨q9, ws9, rfl, rfl, ht9⟩ := hp9
  have hP : va_P (gD G) vwCl ((wH G a o n sv (gX0_between S p0 p1 p2)) ++ ws9) H := hP
  have hD : va_D A ((wH G a o n sv (gX0_between S p0 p1 p2)) ++ ws9) := hD
  refine W.eq (g2 := F0 m 9 ls [.ref q9, .ref o]) rfl ?_
  refine va_putN (D := gD G) (cl := vwCl) (tys := gT G) (ci := 3) (v := .ref q9) (ty := .object "java/lang/String") (C := RX1) (T := TX1) (N := 2) hx hb hw inB_X1 tyX1 tyX1_ok nmX1 hown hE.K hP hD hS 0 rfl rfl 1 (by decide) (va_Nw.use rfl hN.2.2) (fun _ h9 => h9) rfl (by first | decide +kernel | rfl) rfl rfl (Nat.le_of_ble_eq_true rfl) dL_between_9 (fun H locs hP hD hS => ?_)
  have hP : va_P (gD G) vwCl ((wH G a o n (.ref q9) (gX0_between S p0 p1 p2)) ++ ws9) H := hP
  have hD : va_D A ((wH G a o n (.ref q9) (gX0_between S p0 p1 p2)) ++ ws9) := hD
  refine lv_goto (tgt := 23) hx hb dL_between_12 (by decide) ?_
  refine lv_iconst (v := (0 : Int32)) hx hb dL_between_23 qi_0 ?_
  exact weN hx hb hr hk ⟨rfl, q9, ws9, rfl, ht9⟩ hP hD hS (Nat.le_of_ble_eq_true rfl) (Nat.le_of_ble_eq_true rfl) dL_between_24

set_option maxRecDepth 100000 in
set_option maxHeartbeats 4000000 in
theorem hT_until (l : Launch) (G : GT) (a : Nat → Nat) (o : Nat) (n : Int64) (sv : Value) (S : SX) (p0 : Int32) (p1 : Int32) (p2 : Int32) (h0 : vp_in p0 6) (h1 : vp_in p1 6) (r2 : ¬ p2 < (0 : Int32)) (q2 : p2 ≤ (13 : Int32)) : HU l G yL_until cL_until 6 [(0, 12, 15, 25), (0, 12, 19, 19)] 12 30 800 [.ref (a 0), .int p0, .int p1, .int p2, .ref o] (wH G a o n sv S) (fun r wd => r = some (.int (0 : Int32)) ∧ ∃ (q : Nat) (ws : va_W), wd = wH G a o n (.ref q) (gX0_until S p0 p1 p2) ++ ws ∧ TXO G q (oX0_until S p0 p1 p2) ws) := by
  refine HU.ofW (own := RL) rfl pnN_RL (Nat.le_of_ble_eq_true rfl) ?_
  intro p e s m below meth c A C hr hk hT hN hE hP hD hA hAB hS ls hl
  have hx := C.1
  have hb := C.2.1
  have hown := C.2.2.2.1
  have hw := C.2.2.2.2
  have hl : lv_has ls 6 [(0, .ref (a 0)), (1, .int p0), (2, .int p1), (3, .int p2), (4, .ref o)] := hl
  have hPX : va_P (gD G) vwCl (wX G a S) s.heap := P_tail hP
  refine lv_aload hx hb dL_until_0 (lv_at hl 4 rfl) ?_
  refine lv_aload_n hx hb dL_until_2 rfl (lv_at hl 0 rfl) ?_
  refine lv_iload_n hx hb dL_until_3 rfl (lv_at hl 1 rfl) ?_
  refine lv_iload_n hx hb dL_until_4 rfl (lv_at hl 2 rfl) ?_
  refine lv_iload_n hx hb dL_until_5 rfl (lv_at hl 3 rfl) ?_
  refine weVf (wr := [(o, .inr (3, [.long n, sv]))]) (wd := (wX G a S)) (as := [.int p0, .int p1, .int p2]) (rest := [.ref o]) (cl := RX0) C (t_until l G a S p0 p1 p2 h0 h1 r2 q2) F_X0_until rfl bw1146 bw1147 (hw _ bw1148) hE hP hD hS hA hAB (rv2 hE.K hPX (q0 := 0) rfl) hl.1 dL_until_6 ⟨Nat.le_of_ble_eq_true rfl, Nat.le_of_ble_eq_true rfl⟩ rfl (Nat.le_of_ble_eq_true rfl) ⟨Nat.le_of_ble_eq_true rfl, Nat.le_of_ble_eq_true rfl⟩ (fun r9 wd9 H locs hp9 hP hD hS => ?_)
  obtain ⟨q9, ws9, rfl, rfl, ht9⟩ := hp9
  have hP : va_P (gD G) vwCl ((wH G a o n sv (gX0_until S p0 p1 p2)) ++ ws9) H := hP
  have hD : va_D A ((wH G a o n sv (gX0_until S p0 p1 p2)) ++ ws9) := hD
  refine W.eq (g2 := F0 m 9 ls [.ref q9, .ref o]) rfl ?_
  refine va_putN (D := gD G) (cl := vwCl) (tys := gT G) (ci := 3) (v := .ref q9) (ty := .object "java/lang/String") (C := RX1) (T := TX1) (N := 2) hx hb hw inB_X1 tyX1 tyX1_ok nmX1 hown hE.K hP hD hS 0 rfl rfl 1 (by decide) (va_Nw.use rfl hN.2.2) (fun _ h9 => h9) rfl (by first | decide +kernel | rfl) rfl rfl (Nat.le_of_ble_eq_true rfl) dL_until_9 (fun H locs hP hD hS => ?_)
  have hP : va_P (gD G) vwCl ((wH G a o n (.ref q9) (gX0_until S p0 p1 p2)) ++ ws9) H := hP
  have hD : va_D A ((wH G a o n (.ref q9) (gX0_until S p0 p1 p2)) ++ ws9) := hD
  refine lv_goto (tgt := 23) hx hb dL_until_12 (by decide) ?_
  refine lv_iconst (v := (0 : Int32)) hx hb dL_until_23 qi_0 ?_
  exact weN hx hb hr hk ⟨rfl, q9, ws9, rfl, ht9⟩ hP hD hS (Nat.le_of_ble_eq_true rfl) (Nat.le_of_ble_eq_true rfl) dL_until_24

def H_hand (S : SX) (n : Int64) (p0 : Int32) (p1 : Int32) (p2 : Int32) (p3 : Int32) (code : Int32) (n1 : Int64) (S1 : SX) : Prop := (¬ ((¬ p0 < (0 : Int32) ∧ p0 ≤ (23 : Int32)) ∧ (¬ p1 < (0 : Int32) ∧ p1 ≤ (59 : Int32)) ∧ (¬ p2 < (0 : Int32) ∧ p2 ≤ (59 : Int32)) ∧ (¬ p3 < (0 : Int32) ∧ p3 ≤ (999999999 : Int32))) ∧ code = (1 : Int32) ∧ n1 = n ∧ S1 = S) ∨ (((¬ p0 < (0 : Int32) ∧ p0 ≤ (23 : Int32)) ∧ (¬ p1 < (0 : Int32) ∧ p1 ≤ (59 : Int32)) ∧ (¬ p2 < (0 : Int32) ∧ p2 ≤ (59 : Int32)) ∧ (¬ p3 < (0 : Int32) ∧ p3 ≤ (999999999 : Int32))) ∧ code = (0 : Int32) ∧ n1 = ((gX0_hand S p0 p1 p2 p3).1.toInt64) ∧ S1 = ((gX0_hand S p0 p1 p2 p3).2))
theorem k_hand (l : Launch) (hl9 : l.stackTraces = false) (G : GT) (a : Nat → Nat) (o : Nat) (n : Int64) (sv : Value) (S : SX) (p0 : Int32) (p1 : Int32) (p2 : Int32) (p3 : Int32) : HOK l G yL_hand cL_hand 7 [(0, 15, 18, 19)] [.ref (a 0), .int p0, .int p1, .int p2, .int p3, .ref o] (wH G a o n sv S) 30 800 (fun r wd => ∃ (code : Int32) (n1 : Int64) (sv1 : Value) (S1 : SX), r = some (.int code) ∧ wd = wH G a o n1 sv1 S1 ∧ H_hand S n p0 p1 p2 p3 code n1 S1) := by
  by_cases hR : ((¬ p0 < (0 : Int32) ∧ p0 ≤ (23 : Int32)) ∧ (¬ p1 < (0 : Int32) ∧ p1 ≤ (59 : Int32)) ∧ (¬ p2 < (0 : Int32) ∧ p2 ≤ (59 : Int32)) ∧ (¬ p3 < (0 : Int32) ∧ p3 ≤ (999999999 : Int32)))
  · exact ⟨10, 0, 0, by decide, by decide, by decide, Or.inl ⟨_, _, hG_hand l hl9 G a o n sv S p0 p1 p2 p3 hR.1.1 hR.1.2 hR.2.1.1 hR.2.1.2 hR.2.2.1.1 hR.2.2.1.2 hR.2.2.2.1 hR.2.2.2.2, ⟨_, _, _, _, rfl, rfl, (Or.inr (⟨hR, rfl, rfl, rfl⟩))⟩⟩⟩
  · exact ⟨10, 1, 6, by decide, by decide, by decide, Or.inl ⟨_, _, hA_hand l hl9 G a o n sv S p0 p1 p2 p3 hR, ⟨_, _, _, _, rfl, rfl, (Or.inl ⟨hR, rfl, rfl, rfl⟩)⟩⟩⟩

def H_of (S : SX) (n : Int64) (p0 : Int32) (p1 : Int32) (p2 : Int32) (p3 : Int32) (p4 : Int32) (code : Int32) (n1 : Int64) (S1 : SX) : Prop := (¬ (vp_in p0 6) ∧ code = (1 : Int32) ∧ n1 = n ∧ S1 = S) ∨ ((vp_in p0 6) ∧ ¬ ((¬ p1 < (-9999 : Int32) ∧ p1 ≤ (9999 : Int32)) ∧ (¬ p2 < (1 : Int32) ∧ p2 ≤ (12 : Int32)) ∧ (¬ p3 < (1 : Int32) ∧ p3 ≤ (31 : Int32)) ∧ (¬ p4 < (0 : Int32) ∧ p4 ≤ (6 : Int32))) ∧ code = (2 : Int32) ∧ n1 = n ∧ S1 = S) ∨ ((vp_in p0 6) ∧ ((¬ p1 < (-9999 : Int32) ∧ p1 ≤ (9999 : Int32)) ∧ (¬ p2 < (1 : Int32) ∧ p2 ≤ (12 : Int32)) ∧ (¬ p3 < (1 : Int32) ∧ p3 ≤ (31 : Int32)) ∧ (¬ p4 < (0 : Int32) ∧ p4 ≤ (6 : Int32))) ∧ code = (0 : Int32) ∧ n1 = ((gX0_of S p0 p1 p2 p3 p4).1.toInt64) ∧ S1 = ((gX0_of S p0 p1 p2 p3 p4).2))
theorem k_of (l : Launch) (hl9 : l.stackTraces = false) (G : GT) (a : Nat → Nat) (o : Nat) (n : Int64) (sv : Value) (S : SX) (p0 : Int32) (p1 : Int32) (p2 : Int32) (p3 : Int32) (p4 : Int32) : HOK l G yL_of cL_of 8 [(0, 17, 20, 25), (0, 17, 24, 19)] [.ref (a 0), .int p0, .int p1, .int p2, .int p3, .int p4, .ref o] (wH G a o n sv S) 30 800 (fun r wd => ∃ (code : Int32) (n1 : Int64) (sv1 : Value) (S1 : SX), r = some (.int code) ∧ wd = wH G a o n1 sv1 S1 ∧ H_of S n p0 p1 p2 p3 p4 code n1 S1) := by
  by_cases hM : (vp_in p0 6)
  · by_cases hR : ((¬ p1 < (-9999 : Int32) ∧ p1 ≤ (9999 : Int32)) ∧ (¬ p2 < (1 : Int32) ∧ p2 ≤ (12 : Int32)) ∧ (¬ p3 < (1 : Int32) ∧ p3 ≤ (31 : Int32)) ∧ (¬ p4 < (0 : Int32) ∧ p4 ≤ (6 : Int32)))
    · exact ⟨10, 0, 0, by decide, by decide, by decide, Or.inl ⟨_, _, hG_of l hl9 G a o n sv S p0 p1 p2 p3 p4 hM hR.1.1 hR.1.2 hR.2.1.1 hR.2.1.2 hR.2.2.1.1 hR.2.2.1.2 hR.2.2.2.1 hR.2.2.2.2, ⟨_, _, _, _, rfl, rfl, (Or.inr (Or.inr (⟨hM, hR, rfl, rfl, rfl⟩)))⟩⟩⟩
    · exact ⟨10, 1, 6, by decide, by decide, by decide, Or.inl ⟨_, _, hA_of l hl9 G a o n sv S p0 p1 p2 p3 p4 hM hR, ⟨_, _, _, _, rfl, rfl, (Or.inr (Or.inl ⟨hM, hR, rfl, rfl, rfl⟩))⟩⟩⟩
  · exact ⟨10, 1, 6, by decide, by decide, by decide, Or.inl ⟨_, _, hI_of l hl9 G a o n sv S p0 p1 p2 p3 p4 hM, ⟨_, _, _, _, rfl, rfl, (Or.inl ⟨hM, rfl, rfl, rfl⟩)⟩⟩⟩

def H_ofDay (S : SX) (n : Int64) (p0 : Int32) (p1 : Int32) (code : Int32) (n1 : Int64) (S1 : SX) : Prop := (¬ (vp_in p0 6) ∧ code = (1 : Int32) ∧ n1 = n ∧ S1 = S) ∨ ((vp_in p0 6) ∧ ¬ ((¬ p1 < (-10000000 : Int32) ∧ p1 ≤ (10000000 : Int32))) ∧ code = (2 : Int32) ∧ n1 = n ∧ S1 = S) ∨ ((vp_in p0 6) ∧ ((¬ p1 < (-10000000 : Int32) ∧ p1 ≤ (10000000 : Int32))) ∧ code = (0 : Int32) ∧ n1 = ((gX0_ofDay S p0 p1).1.toInt64) ∧ S1 = ((gX0_ofDay S p0 p1).2))
theorem k_ofDay (l : Launch) (hl9 : l.stackTraces = false) (G : GT) (a : Nat → Nat) (o : Nat) (n : Int64) (sv : Value) (S : SX) (p0 : Int32) (p1 : Int32) : HOK l G yL_ofDay cL_ofDay 5 [(0, 11, 14, 25), (0, 11, 18, 19)] [.ref (a 0), .int p0, .int p1, .ref o] (wH G a o n sv S) 30 800 (fun r wd => ∃ (code : Int32) (n1 : Int64) (sv1 : Value) (S1 : SX), r = some (.int code) ∧ wd = wH G a o n1 sv1 S1 ∧ H_ofDay S n p0 p1 code n1 S1) := by
  by_cases hM : (vp_in p0 6)
  · by_cases hR : ((¬ p1 < (-10000000 : Int32) ∧ p1 ≤ (10000000 : Int32)))
    · exact ⟨10, 0, 0, by decide, by decide, by decide, Or.inl ⟨_, _, hG_ofDay l hl9 G a o n sv S p0 p1 hM hR.1 hR.2, ⟨_, _, _, _, rfl, rfl, (Or.inr (Or.inr (⟨hM, hR, rfl, rfl, rfl⟩)))⟩⟩⟩
    · exact ⟨10, 1, 6, by decide, by decide, by decide, Or.inl ⟨_, _, hA_ofDay l hl9 G a o n sv S p0 p1 hM hR, ⟨_, _, _, _, rfl, rfl, (Or.inr (Or.inl ⟨hM, hR, rfl, rfl, rfl⟩))⟩⟩⟩
  · exact ⟨10, 1, 6, by decide, by decide, by decide, Or.inl ⟨_, _, hI_ofDay l hl9 G a o n sv S p0 p1 hM, ⟨_, _, _, _, rfl, rfl, (Or.inl ⟨hM, rfl, rfl, rfl⟩)⟩⟩⟩

def H_copy (S : SX) (n : Int64) (p0 : Int32) (p1 : Int32) (code : Int32) (n1 : Int64) (S1 : SX) : Prop := (¬ (vp_in p0 6 ∧ vp_in p1 6) ∧ code = (1 : Int32) ∧ n1 = n ∧ S1 = S) ∨ ((vp_in p0 6 ∧ vp_in p1 6) ∧ code = (0 : Int32) ∧ n1 = ((gX0_copy S p0 p1).1.toInt64) ∧ S1 = ((gX0_copy S p0 p1).2))
theorem k_copy (l : Launch) (hl9 : l.stackTraces = false) (G : GT) (a : Nat → Nat) (o : Nat) (n : Int64) (sv : Value) (S : SX) (p0 : Int32) (p1 : Int32) : HOK l G yL_copy cL_copy 5 [(0, 11, 14, 25)] [.ref (a 0), .int p0, .int p1, .ref o] (wH G a o n sv S) 30 800 (fun r wd => ∃ (code : Int32) (n1 : Int64) (sv1 : Value) (S1 : SX), r = some (.int code) ∧ wd = wH G a o n1 sv1 S1 ∧ H_copy S n p0 p1 code n1 S1) := by
  by_cases hM : (vp_in p0 6 ∧ vp_in p1 6)
  · exact ⟨10, 0, 0, by decide, by decide, by decide, Or.inl ⟨_, _, hG_copy l hl9 G a o n sv S p0 p1 hM.1 hM.2, ⟨_, _, _, _, rfl, rfl, (Or.inr (⟨hM, rfl, rfl, rfl⟩))⟩⟩⟩
  · exact ⟨10, 1, 6, by decide, by decide, by decide, Or.inl ⟨_, _, hI_copy l hl9 G a o n sv S p0 p1 hM, ⟨_, _, _, _, rfl, rfl, (Or.inl ⟨hM, rfl, rfl, rfl⟩)⟩⟩⟩

def H_takeDate (S : SX) (n : Int64) (p0 : Int32) (p1 : Int32) (code : Int32) (n1 : Int64) (S1 : SX) : Prop := (¬ (vp_in p0 6 ∧ vp_in p1 6) ∧ code = (1 : Int32) ∧ n1 = n ∧ S1 = S) ∨ ((vp_in p0 6 ∧ vp_in p1 6) ∧ code = (0 : Int32) ∧ n1 = ((gX0_takeDate S p0 p1).1.toInt64) ∧ S1 = ((gX0_takeDate S p0 p1).2))
theorem k_takeDate (l : Launch) (hl9 : l.stackTraces = false) (G : GT) (a : Nat → Nat) (o : Nat) (n : Int64) (sv : Value) (S : SX) (p0 : Int32) (p1 : Int32) : HOK l G yL_takeDate cL_takeDate 5 [(0, 11, 14, 25)] [.ref (a 0), .int p0, .int p1, .ref o] (wH G a o n sv S) 30 800 (fun r wd => ∃ (code : Int32) (n1 : Int64) (sv1 : Value) (S1 : SX), r = some (.int code) ∧ wd = wH G a o n1 sv1 S1 ∧ H_takeDate S n p0 p1 code n1 S1) := by
  by_cases hM : (vp_in p0 6 ∧ vp_in p1 6)
  · exact ⟨10, 0, 0, by decide, by decide, by decide, Or.inl ⟨_, _, hG_takeDate l hl9 G a o n sv S p0 p1 hM.1 hM.2, ⟨_, _, _, _, rfl, rfl, (Or.inr (⟨hM, rfl, rfl, rfl⟩))⟩⟩⟩
  · exact ⟨10, 1, 6, by decide, by decide, by decide, Or.inl ⟨_, _, hI_takeDate l hl9 G a o n sv S p0 p1 hM, ⟨_, _, _, _, rfl, rfl, (Or.inl ⟨hM, rfl, rfl, rfl⟩)⟩⟩⟩

def H_takeTime (S : SX) (n : Int64) (p0 : Int32) (p1 : Int32) (code : Int32) (n1 : Int64) (S1 : SX) : Prop := (¬ (vp_in p0 6 ∧ vp_in p1 6) ∧ code = (1 : Int32) ∧ n1 = n ∧ S1 = S) ∨ ((vp_in p0 6 ∧ vp_in p1 6) ∧ code = (0 : Int32) ∧ n1 = ((gX0_takeTime S p0 p1).1.toInt64) ∧ S1 = ((gX0_takeTime S p0 p1).2))
theorem k_takeTime (l : Launch) (hl9 : l.stackTraces = false) (G : GT) (a : Nat → Nat) (o : Nat) (n : Int64) (sv : Value) (S : SX) (p0 : Int32) (p1 : Int32) : HOK l G yL_takeTime cL_takeTime 5 [(0, 11, 14, 25)] [.ref (a 0), .int p0, .int p1, .ref o] (wH G a o n sv S) 30 800 (fun r wd => ∃ (code : Int32) (n1 : Int64) (sv1 : Value) (S1 : SX), r = some (.int code) ∧ wd = wH G a o n1 sv1 S1 ∧ H_takeTime S n p0 p1 code n1 S1) := by
  by_cases hM : (vp_in p0 6 ∧ vp_in p1 6)
  · exact ⟨10, 0, 0, by decide, by decide, by decide, Or.inl ⟨_, _, hG_takeTime l hl9 G a o n sv S p0 p1 hM.1 hM.2, ⟨_, _, _, _, rfl, rfl, (Or.inr (⟨hM, rfl, rfl, rfl⟩))⟩⟩⟩
  · exact ⟨10, 1, 6, by decide, by decide, by decide, Or.inl ⟨_, _, hI_takeTime l hl9 G a o n sv S p0 p1 hM, ⟨_, _, _, _, rfl, rfl, (Or.inl ⟨hM, rfl, rfl, rfl⟩)⟩⟩⟩

def H_compare (S : SX) (n : Int64) (p0 : Int32) (p1 : Int32) (code : Int32) (n1 : Int64) (S1 : SX) : Prop := (¬ (vp_in p0 6 ∧ vp_in p1 6) ∧ code = (1 : Int32) ∧ n1 = n ∧ S1 = S) ∨ ((vp_in p0 6 ∧ vp_in p1 6) ∧ code = (0 : Int32) ∧ n1 = ((fX0_compare S p0 p1).toInt64) ∧ S1 = S)
theorem k_compare (l : Launch) (hl9 : l.stackTraces = false) (G : GT) (a : Nat → Nat) (o : Nat) (n : Int64) (sv : Value) (S : SX) (p0 : Int32) (p1 : Int32) : HOK l G yL_compare cL_compare 5 [(0, 11, 14, 25)] [.ref (a 0), .int p0, .int p1, .ref o] (wH G a o n sv S) 30 800 (fun r wd => ∃ (code : Int32) (n1 : Int64) (sv1 : Value) (S1 : SX), r = some (.int code) ∧ wd = wH G a o n1 sv1 S1 ∧ H_compare S n p0 p1 code n1 S1) := by
  by_cases hM : (vp_in p0 6 ∧ vp_in p1 6)
  · exact ⟨10, 0, 0, by decide, by decide, by decide, Or.inl ⟨_, _, hG_compare l hl9 G a o n sv S p0 p1 hM.1 hM.2, ⟨_, _, _, _, rfl, rfl, (Or.inr (⟨hM, rfl, rfl, rfl⟩))⟩⟩⟩
  · exact ⟨10, 1, 6, by decide, by decide, by decide, Or.inl ⟨_, _, hI_compare l hl9 G a o n sv S p0 p1 hM, ⟨_, _, _, _, rfl, rfl, (Or.inl ⟨hM, rfl, rfl, rfl⟩)⟩⟩⟩

def H_isSame (S : SX) (n : Int64) (p0 : Int32) (p1 : Int32) (code : Int32) (n1 : Int64) (S1 : SX) : Prop := (¬ (vp_in p0 6 ∧ vp_in p1 6) ∧ code = (1 : Int32) ∧ n1 = n ∧ S1 = S) ∨ ((vp_in p0 6 ∧ vp_in p1 6) ∧ code = (0 : Int32) ∧ n1 = (fz9 (fX0_isSame S p0 p1)) ∧ S1 = S)
theorem k_isSame (l : Launch) (hl9 : l.stackTraces = false) (G : GT) (a : Nat → Nat) (o : Nat) (n : Int64) (sv : Value) (S : SX) (p0 : Int32) (p1 : Int32) : HOK l G yL_isSame cL_isSame 5 [(0, 18, 21, 25)] [.ref (a 0), .int p0, .int p1, .ref o] (wH G a o n sv S) 30 800 (fun r wd => ∃ (code : Int32) (n1 : Int64) (sv1 : Value) (S1 : SX), r = some (.int code) ∧ wd = wH G a o n1 sv1 S1 ∧ H_isSame S n p0 p1 code n1 S1) := by
  by_cases hM : (vp_in p0 6 ∧ vp_in p1 6)
  · exact ⟨10, 0, 0, by decide, by decide, by decide, Or.inl ⟨_, _, hG_isSame l hl9 G a o n sv S p0 p1 hM.1 hM.2, ⟨_, _, _, _, rfl, rfl, (Or.inr (⟨hM, rfl, rfl, rfl⟩))⟩⟩⟩
  · exact ⟨10, 1, 6, by decide, by decide, by decide, Or.inl ⟨_, _, hI_isSame l hl9 G a o n sv S p0 p1 hM, ⟨_, _, _, _, rfl, rfl, (Or.inl ⟨hM, rfl, rfl, rfl⟩)⟩⟩⟩

def H_withYear (S : SX) (n : Int64) (p0 : Int32) (p1 : Int32) (code : Int32) (n1 : Int64) (S1 : SX) : Prop := (¬ (vp_in p0 6) ∧ code = (1 : Int32) ∧ n1 = n ∧ S1 = S) ∨ ((vp_in p0 6) ∧ ¬ ((¬ p1 < (-9999 : Int32) ∧ p1 ≤ (9999 : Int32))) ∧ code = (2 : Int32) ∧ n1 = n ∧ S1 = S) ∨ ((vp_in p0 6) ∧ ((¬ p1 < (-9999 : Int32) ∧ p1 ≤ (9999 : Int32))) ∧ code = (0 : Int32) ∧ n1 = ((gX0_withYear S p0 p1).1.toInt64) ∧ S1 = ((gX0_withYear S p0 p1).2))
theorem k_withYear (l : Launch) (hl9 : l.stackTraces = false) (G : GT) (a : Nat → Nat) (o : Nat) (n : Int64) (sv : Value) (S : SX) (p0 : Int32) (p1 : Int32) : HOK l G yL_withYear cL_withYear 5 [(0, 11, 14, 25), (0, 11, 18, 19)] [.ref (a 0), .int p0, .int p1, .ref o] (wH G a o n sv S) 30 800 (fun r wd => ∃ (code : Int32) (n1 : Int64) (sv1 : Value) (S1 : SX), r = some (.int code) ∧ wd = wH G a o n1 sv1 S1 ∧ H_withYear S n p0 p1 code n1 S1) := by
  by_cases hM : (vp_in p0 6)
  · by_cases hR : ((¬ p1 < (-9999 : Int32) ∧ p1 ≤ (9999 : Int32)))
    · exact ⟨10, 0, 0, by decide, by decide, by decide, Or.inl ⟨_, _, hG_withYear l hl9 G a o n sv S p0 p1 hM hR.1 hR.2, ⟨_, _, _, _, rfl, rfl, (Or.inr (Or.inr (⟨hM, hR, rfl, rfl, rfl⟩)))⟩⟩⟩
    · exact ⟨10, 1, 6, by decide, by decide, by decide, Or.inl ⟨_, _, hA_withYear l hl9 G a o n sv S p0 p1 hM hR, ⟨_, _, _, _, rfl, rfl, (Or.inr (Or.inl ⟨hM, hR, rfl, rfl, rfl⟩))⟩⟩⟩
  · exact ⟨10, 1, 6, by decide, by decide, by decide, Or.inl ⟨_, _, hI_withYear l hl9 G a o n sv S p0 p1 hM, ⟨_, _, _, _, rfl, rfl, (Or.inl ⟨hM, rfl, rfl, rfl⟩)⟩⟩⟩

def H_withMonth (S : SX) (n : Int64) (p0 : Int32) (p1 : Int32) (code : Int32) (n1 : Int64) (S1 : SX) : Prop := (¬ (vp_in p0 6) ∧ code = (1 : Int32) ∧ n1 = n ∧ S1 = S) ∨ ((vp_in p0 6) ∧ ¬ ((¬ p1 < (1 : Int32) ∧ p1 ≤ (12 : Int32))) ∧ code = (2 : Int32) ∧ n1 = n ∧ S1 = S) ∨ ((vp_in p0 6) ∧ ((¬ p1 < (1 : Int32) ∧ p1 ≤ (12 : Int32))) ∧ code = (0 : Int32) ∧ n1 = ((gX0_withMonth S p0 p1).1.toInt64) ∧ S1 = ((gX0_withMonth S p0 p1).2))
theorem k_withMonth (l : Launch) (hl9 : l.stackTraces = false) (G : GT) (a : Nat → Nat) (o : Nat) (n : Int64) (sv : Value) (S : SX) (p0 : Int32) (p1 : Int32) : HOK l G yL_withMonth cL_withMonth 5 [(0, 11, 14, 25), (0, 11, 18, 19)] [.ref (a 0), .int p0, .int p1, .ref o] (wH G a o n sv S) 30 800 (fun r wd => ∃ (code : Int32) (n1 : Int64) (sv1 : Value) (S1 : SX), r = some (.int code) ∧ wd = wH G a o n1 sv1 S1 ∧ H_withMonth S n p0 p1 code n1 S1) := by
  by_cases hM : (vp_in p0 6)
  · by_cases hR : ((¬ p1 < (1 : Int32) ∧ p1 ≤ (12 : Int32)))
    · exact ⟨10, 0, 0, by decide, by decide, by decide, Or.inl ⟨_, _, hG_withMonth l hl9 G a o n sv S p0 p1 hM hR.1 hR.2, ⟨_, _, _, _, rfl, rfl, (Or.inr (Or.inr (⟨hM, hR, rfl, rfl, rfl⟩)))⟩⟩⟩
    · exact ⟨10, 1, 6, by decide, by decide, by decide, Or.inl ⟨_, _, hA_withMonth l hl9 G a o n sv S p0 p1 hM hR, ⟨_, _, _, _, rfl, rfl, (Or.inr (Or.inl ⟨hM, hR, rfl, rfl, rfl⟩))⟩⟩⟩
  · exact ⟨10, 1, 6, by decide, by decide, by decide, Or.inl ⟨_, _, hI_withMonth l hl9 G a o n sv S p0 p1 hM, ⟨_, _, _, _, rfl, rfl, (Or.inl ⟨hM, rfl, rfl, rfl⟩)⟩⟩⟩

def H_withDayOfMonth (S : SX) (n : Int64) (p0 : Int32) (p1 : Int32) (code : Int32) (n1 : Int64) (S1 : SX) : Prop := (¬ (vp_in p0 6) ∧ code = (1 : Int32) ∧ n1 = n ∧ S1 = S) ∨ ((vp_in p0 6) ∧ ¬ ((¬ p1 < (1 : Int32) ∧ p1 ≤ (31 : Int32))) ∧ code = (2 : Int32) ∧ n1 = n ∧ S1 = S) ∨ ((vp_in p0 6) ∧ ((¬ p1 < (1 : Int32) ∧ p1 ≤ (31 : Int32))) ∧ code = (0 : Int32) ∧ n1 = ((gX0_withDayOfMonth S p0 p1).1.toInt64) ∧ S1 = ((gX0_withDayOfMonth S p0 p1).2))
theorem k_withDayOfMonth (l : Launch) (hl9 : l.stackTraces = false) (G : GT) (a : Nat → Nat) (o : Nat) (n : Int64) (sv : Value) (S : SX) (p0 : Int32) (p1 : Int32) : HOK l G yL_withDayOfMonth cL_withDayOfMonth 5 [(0, 11, 14, 25), (0, 11, 18, 19)] [.ref (a 0), .int p0, .int p1, .ref o] (wH G a o n sv S) 30 800 (fun r wd => ∃ (code : Int32) (n1 : Int64) (sv1 : Value) (S1 : SX), r = some (.int code) ∧ wd = wH G a o n1 sv1 S1 ∧ H_withDayOfMonth S n p0 p1 code n1 S1) := by
  by_cases hM : (vp_in p0 6)
  · by_cases hR : ((¬ p1 < (1 : Int32) ∧ p1 ≤ (31 : Int32)))
    · exact ⟨10, 0, 0, by decide, by decide, by decide, Or.inl ⟨_, _, hG_withDayOfMonth l hl9 G a o n sv S p0 p1 hM hR.1 hR.2, ⟨_, _, _, _, rfl, rfl, (Or.inr (Or.inr (⟨hM, hR, rfl, rfl, rfl⟩)))⟩⟩⟩
    · exact ⟨10, 1, 6, by decide, by decide, by decide, Or.inl ⟨_, _, hA_withDayOfMonth l hl9 G a o n sv S p0 p1 hM hR, ⟨_, _, _, _, rfl, rfl, (Or.inr (Or.inl ⟨hM, hR, rfl, rfl, rfl⟩))⟩⟩⟩
  · exact ⟨10, 1, 6, by decide, by decide, by decide, Or.inl ⟨_, _, hI_withDayOfMonth l hl9 G a o n sv S p0 p1 hM, ⟨_, _, _, _, rfl, rfl, (Or.inl ⟨hM, rfl, rfl, rfl⟩)⟩⟩⟩

def H_withDayOfYear (S : SX) (n : Int64) (p0 : Int32) (p1 : Int32) (code : Int32) (n1 : Int64) (S1 : SX) : Prop := (¬ (vp_in p0 6) ∧ code = (1 : Int32) ∧ n1 = n ∧ S1 = S) ∨ ((vp_in p0 6) ∧ ¬ ((¬ p1 < (1 : Int32) ∧ p1 ≤ (366 : Int32))) ∧ code = (2 : Int32) ∧ n1 = n ∧ S1 = S) ∨ ((vp_in p0 6) ∧ ((¬ p1 < (1 : Int32) ∧ p1 ≤ (366 : Int32))) ∧ code = (0 : Int32) ∧ n1 = ((gX0_withDayOfYear S p0 p1).1.toInt64) ∧ S1 = ((gX0_withDayOfYear S p0 p1).2))
theorem k_withDayOfYear (l : Launch) (hl9 : l.stackTraces = false) (G : GT) (a : Nat → Nat) (o : Nat) (n : Int64) (sv : Value) (S : SX) (p0 : Int32) (p1 : Int32) : HOK l G yL_withDayOfYear cL_withDayOfYear 5 [(0, 11, 14, 25), (0, 11, 18, 19)] [.ref (a 0), .int p0, .int p1, .ref o] (wH G a o n sv S) 30 800 (fun r wd => ∃ (code : Int32) (n1 : Int64) (sv1 : Value) (S1 : SX), r = some (.int code) ∧ wd = wH G a o n1 sv1 S1 ∧ H_withDayOfYear S n p0 p1 code n1 S1) := by
  by_cases hM : (vp_in p0 6)
  · by_cases hR : ((¬ p1 < (1 : Int32) ∧ p1 ≤ (366 : Int32)))
    · exact ⟨10, 0, 0, by decide, by decide, by decide, Or.inl ⟨_, _, hG_withDayOfYear l hl9 G a o n sv S p0 p1 hM hR.1 hR.2, ⟨_, _, _, _, rfl, rfl, (Or.inr (Or.inr (⟨hM, hR, rfl, rfl, rfl⟩)))⟩⟩⟩
    · exact ⟨10, 1, 6, by decide, by decide, by decide, Or.inl ⟨_, _, hA_withDayOfYear l hl9 G a o n sv S p0 p1 hM hR, ⟨_, _, _, _, rfl, rfl, (Or.inr (Or.inl ⟨hM, hR, rfl, rfl, rfl⟩))⟩⟩⟩
  · exact ⟨10, 1, 6, by decide, by decide, by decide, Or.inl ⟨_, _, hI_withDayOfYear l hl9 G a o n sv S p0 p1 hM, ⟨_, _, _, _, rfl, rfl, (Or.inl ⟨hM, rfl, rfl, rfl⟩)⟩⟩⟩

def H_withHour (S : SX) (n : Int64) (p0 : Int32) (p1 : Int32) (code : Int32) (n1 : Int64) (S1 : SX) : Prop := (¬ (vp_in p0 6) ∧ code = (1 : Int32) ∧ n1 = n ∧ S1 = S) ∨ ((vp_in p0 6) ∧ ¬ ((¬ p1 < (0 : Int32) ∧ p1 ≤ (23 : Int32))) ∧ code = (2 : Int32) ∧ n1 = n ∧ S1 = S) ∨ ((vp_in p0 6) ∧ ((¬ p1 < (0 : Int32) ∧ p1 ≤ (23 : Int32))) ∧ code = (0 : Int32) ∧ n1 = ((gX0_withHour S p0 p1).1.toInt64) ∧ S1 = ((gX0_withHour S p0 p1).2))
theorem k_withHour (l : Launch) (hl9 : l.stackTraces = false) (G : GT) (a : Nat → Nat) (o : Nat) (n : Int64) (sv : Value) (S : SX) (p0 : Int32) (p1 : Int32) : HOK l G yL_withHour cL_withHour 5 [(0, 11, 14, 25), (0, 11, 18, 19)] [.ref (a 0), .int p0, .int p1, .ref o] (wH G a o n sv S) 30 800 (fun r wd => ∃ (code : Int32) (n1 : Int64) (sv1 : Value) (S1 : SX), r = some (.int code) ∧ wd = wH G a o n1 sv1 S1 ∧ H_withHour S n p0 p1 code n1 S1) := by
  by_cases hM : (vp_in p0 6)
  · by_cases hR : ((¬ p1 < (0 : Int32) ∧ p1 ≤ (23 : Int32)))
    · exact ⟨10, 0, 0, by decide, by decide, by decide, Or.inl ⟨_, _, hG_withHour l hl9 G a o n sv S p0 p1 hM hR.1 hR.2, ⟨_, _, _, _, rfl, rfl, (Or.inr (Or.inr (⟨hM, hR, rfl, rfl, rfl⟩)))⟩⟩⟩
    · exact ⟨10, 1, 6, by decide, by decide, by decide, Or.inl ⟨_, _, hA_withHour l hl9 G a o n sv S p0 p1 hM hR, ⟨_, _, _, _, rfl, rfl, (Or.inr (Or.inl ⟨hM, hR, rfl, rfl, rfl⟩))⟩⟩⟩
  · exact ⟨10, 1, 6, by decide, by decide, by decide, Or.inl ⟨_, _, hI_withHour l hl9 G a o n sv S p0 p1 hM, ⟨_, _, _, _, rfl, rfl, (Or.inl ⟨hM, rfl, rfl, rfl⟩)⟩⟩⟩

def H_withMinute (S : SX) (n : Int64) (p0 : Int32) (p1 : Int32) (code : Int32) (n1 : Int64) (S1 : SX) : Prop := (¬ (vp_in p0 6) ∧ code = (1 : Int32) ∧ n1 = n ∧ S1 = S) ∨ ((vp_in p0 6) ∧ ¬ ((¬ p1 < (0 : Int32) ∧ p1 ≤ (59 : Int32))) ∧ code = (2 : Int32) ∧ n1 = n ∧ S1 = S) ∨ ((vp_in p0 6) ∧ ((¬ p1 < (0 : Int32) ∧ p1 ≤ (59 : Int32))) ∧ code = (0 : Int32) ∧ n1 = ((gX0_withMinute S p0 p1).1.toInt64) ∧ S1 = ((gX0_withMinute S p0 p1).2))
theorem k_withMinute (l : Launch) (hl9 : l.stackTraces = false) (G : GT) (a : Nat → Nat) (o : Nat) (n : Int64) (sv : Value) (S : SX) (p0 : Int32) (p1 : Int32) : HOK l G yL_withMinute cL_withMinute 5 [(0, 11, 14, 25), (0, 11, 18, 19)] [.ref (a 0), .int p0, .int p1, .ref o] (wH G a o n sv S) 30 800 (fun r wd => ∃ (code : Int32) (n1 : Int64) (sv1 : Value) (S1 : SX), r = some (.int code) ∧ wd = wH G a o n1 sv1 S1 ∧ H_withMinute S n p0 p1 code n1 S1) := by
  by_cases hM : (vp_in p0 6)
  · by_cases hR : ((¬ p1 < (0 : Int32) ∧ p1 ≤ (59 : Int32)))
    · exact ⟨10, 0, 0, by decide, by decide, by decide, Or.inl ⟨_, _, hG_withMinute l hl9 G a o n sv S p0 p1 hM hR.1 hR.2, ⟨_, _, _, _, rfl, rfl, (Or.inr (Or.inr (⟨hM, hR, rfl, rfl, rfl⟩)))⟩⟩⟩
    · exact ⟨10, 1, 6, by decide, by decide, by decide, Or.inl ⟨_, _, hA_withMinute l hl9 G a o n sv S p0 p1 hM hR, ⟨_, _, _, _, rfl, rfl, (Or.inr (Or.inl ⟨hM, hR, rfl, rfl, rfl⟩))⟩⟩⟩
  · exact ⟨10, 1, 6, by decide, by decide, by decide, Or.inl ⟨_, _, hI_withMinute l hl9 G a o n sv S p0 p1 hM, ⟨_, _, _, _, rfl, rfl, (Or.inl ⟨hM, rfl, rfl, rfl⟩)⟩⟩⟩

def H_withSecond (S : SX) (n : Int64) (p0 : Int32) (p1 : Int32) (code : Int32) (n1 : Int64) (S1 : SX) : Prop := (¬ (vp_in p0 6) ∧ code = (1 : Int32) ∧ n1 = n ∧ S1 = S) ∨ ((vp_in p0 6) ∧ ¬ ((¬ p1 < (0 : Int32) ∧ p1 ≤ (59 : Int32))) ∧ code = (2 : Int32) ∧ n1 = n ∧ S1 = S) ∨ ((vp_in p0 6) ∧ ((¬ p1 < (0 : Int32) ∧ p1 ≤ (59 : Int32))) ∧ code = (0 : Int32) ∧ n1 = ((gX0_withSecond S p0 p1).1.toInt64) ∧ S1 = ((gX0_withSecond S p0 p1).2))
theorem k_withSecond (l : Launch) (hl9 : l.stackTraces = false) (G : GT) (a : Nat → Nat) (o : Nat) (n : Int64) (sv : Value) (S : SX) (p0 : Int32) (p1 : Int32) : HOK l G yL_withSecond cL_withSecond 5 [(0, 11, 14, 25), (0, 11, 18, 19)] [.ref (a 0), .int p0, .int p1, .ref o] (wH G a o n sv S) 30 800 (fun r wd => ∃ (code : Int32) (n1 : Int64) (sv1 : Value) (S1 : SX), r = some (.int code) ∧ wd = wH G a o n1 sv1 S1 ∧ H_withSecond S n p0 p1 code n1 S1) := by
  by_cases hM : (vp_in p0 6)
  · by_cases hR : ((¬ p1 < (0 : Int32) ∧ p1 ≤ (59 : Int32)))
    · exact ⟨10, 0, 0, by decide, by decide, by decide, Or.inl ⟨_, _, hG_withSecond l hl9 G a o n sv S p0 p1 hM hR.1 hR.2, ⟨_, _, _, _, rfl, rfl, (Or.inr (Or.inr (⟨hM, hR, rfl, rfl, rfl⟩)))⟩⟩⟩
    · exact ⟨10, 1, 6, by decide, by decide, by decide, Or.inl ⟨_, _, hA_withSecond l hl9 G a o n sv S p0 p1 hM hR, ⟨_, _, _, _, rfl, rfl, (Or.inr (Or.inl ⟨hM, hR, rfl, rfl, rfl⟩))⟩⟩⟩
  · exact ⟨10, 1, 6, by decide, by decide, by decide, Or.inl ⟨_, _, hI_withSecond l hl9 G a o n sv S p0 p1 hM, ⟨_, _, _, _, rfl, rfl, (Or.inl ⟨hM, rfl, rfl, rfl⟩)⟩⟩⟩

def H_withNano (S : SX) (n : Int64) (p0 : Int32) (p1 : Int32) (code : Int32) (n1 : Int64) (S1 : SX) : Prop := (¬ (vp_in p0 6) ∧ code = (1 : Int32) ∧ n1 = n ∧ S1 = S) ∨ ((vp_in p0 6) ∧ ¬ ((¬ p1 < (0 : Int32) ∧ p1 ≤ (999999999 : Int32))) ∧ code = (2 : Int32) ∧ n1 = n ∧ S1 = S) ∨ ((vp_in p0 6) ∧ ((¬ p1 < (0 : Int32) ∧ p1 ≤ (999999999 : Int32))) ∧ code = (0 : Int32) ∧ n1 = ((gX0_withNano S p0 p1).1.toInt64) ∧ S1 = ((gX0_withNano S p0 p1).2))
theorem k_withNano (l : Launch) (hl9 : l.stackTraces = false) (G : GT) (a : Nat → Nat) (o : Nat) (n : Int64) (sv : Value) (S : SX) (p0 : Int32) (p1 : Int32) : HOK l G yL_withNano cL_withNano 5 [(0, 11, 14, 25), (0, 11, 18, 19)] [.ref (a 0), .int p0, .int p1, .ref o] (wH G a o n sv S) 30 800 (fun r wd => ∃ (code : Int32) (n1 : Int64) (sv1 : Value) (S1 : SX), r = some (.int code) ∧ wd = wH G a o n1 sv1 S1 ∧ H_withNano S n p0 p1 code n1 S1) := by
  by_cases hM : (vp_in p0 6)
  · by_cases hR : ((¬ p1 < (0 : Int32) ∧ p1 ≤ (999999999 : Int32)))
    · exact ⟨10, 0, 0, by decide, by decide, by decide, Or.inl ⟨_, _, hG_withNano l hl9 G a o n sv S p0 p1 hM hR.1 hR.2, ⟨_, _, _, _, rfl, rfl, (Or.inr (Or.inr (⟨hM, hR, rfl, rfl, rfl⟩)))⟩⟩⟩
    · exact ⟨10, 1, 6, by decide, by decide, by decide, Or.inl ⟨_, _, hA_withNano l hl9 G a o n sv S p0 p1 hM hR, ⟨_, _, _, _, rfl, rfl, (Or.inr (Or.inl ⟨hM, hR, rfl, rfl, rfl⟩))⟩⟩⟩
  · exact ⟨10, 1, 6, by decide, by decide, by decide, Or.inl ⟨_, _, hI_withNano l hl9 G a o n sv S p0 p1 hM, ⟨_, _, _, _, rfl, rfl, (Or.inl ⟨hM, rfl, rfl, rfl⟩)⟩⟩⟩

def H_truncate (S : SX) (n : Int64) (p0 : Int32) (p1 : Int32) (code : Int32) (n1 : Int64) (S1 : SX) : Prop := (¬ (vp_in p0 6) ∧ code = (1 : Int32) ∧ n1 = n ∧ S1 = S) ∨ ((vp_in p0 6) ∧ ¬ ((¬ p1 < (0 : Int32) ∧ p1 ≤ (7 : Int32))) ∧ code = (2 : Int32) ∧ n1 = n ∧ S1 = S) ∨ ((vp_in p0 6) ∧ ((¬ p1 < (0 : Int32) ∧ p1 ≤ (7 : Int32))) ∧ code = (0 : Int32) ∧ n1 = ((gX0_truncate S p0 p1).1.toInt64) ∧ S1 = ((gX0_truncate S p0 p1).2))
theorem k_truncate (l : Launch) (hl9 : l.stackTraces = false) (G : GT) (a : Nat → Nat) (o : Nat) (n : Int64) (sv : Value) (S : SX) (p0 : Int32) (p1 : Int32) : HOK l G yL_truncate cL_truncate 5 [(0, 11, 14, 25), (0, 11, 18, 19)] [.ref (a 0), .int p0, .int p1, .ref o] (wH G a o n sv S) 30 800 (fun r wd => ∃ (code : Int32) (n1 : Int64) (sv1 : Value) (S1 : SX), r = some (.int code) ∧ wd = wH G a o n1 sv1 S1 ∧ H_truncate S n p0 p1 code n1 S1) := by
  by_cases hM : (vp_in p0 6)
  · by_cases hR : ((¬ p1 < (0 : Int32) ∧ p1 ≤ (7 : Int32)))
    · exact ⟨10, 0, 0, by decide, by decide, by decide, Or.inl ⟨_, _, hG_truncate l hl9 G a o n sv S p0 p1 hM hR.1 hR.2, ⟨_, _, _, _, rfl, rfl, (Or.inr (Or.inr (⟨hM, hR, rfl, rfl, rfl⟩)))⟩⟩⟩
    · exact ⟨10, 1, 6, by decide, by decide, by decide, Or.inl ⟨_, _, hA_truncate l hl9 G a o n sv S p0 p1 hM hR, ⟨_, _, _, _, rfl, rfl, (Or.inr (Or.inl ⟨hM, hR, rfl, rfl, rfl⟩))⟩⟩⟩
  · exact ⟨10, 1, 6, by decide, by decide, by decide, Or.inl ⟨_, _, hI_truncate l hl9 G a o n sv S p0 p1 hM, ⟨_, _, _, _, rfl, rfl, (Or.inl ⟨hM, rfl, rfl, rfl⟩)⟩⟩⟩

def H_plusYears (S : SX) (n : Int64) (p0 : Int32) (p1 : Int32) (code : Int32) (n1 : Int64) (S1 : SX) : Prop := (¬ (vp_in p0 6) ∧ code = (1 : Int32) ∧ n1 = n ∧ S1 = S) ∨ ((vp_in p0 6) ∧ ¬ ((¬ p1 < (-100000000 : Int32) ∧ p1 ≤ (100000000 : Int32))) ∧ code = (2 : Int32) ∧ n1 = n ∧ S1 = S) ∨ ((vp_in p0 6) ∧ ((¬ p1 < (-100000000 : Int32) ∧ p1 ≤ (100000000 : Int32))) ∧ code = (0 : Int32) ∧ n1 = ((gX0_plusYears S p0 p1).1.toInt64) ∧ S1 = ((gX0_plusYears S p0 p1).2))
theorem k_plusYears (l : Launch) (hl9 : l.stackTraces = false) (G : GT) (a : Nat → Nat) (o : Nat) (n : Int64) (sv : Value) (S : SX) (p0 : Int32) (p1 : Int32) : HOK l G yL_plusYears cL_plusYears 5 [(0, 11, 14, 25), (0, 11, 18, 19)] [.ref (a 0), .int p0, .int p1, .ref o] (wH G a o n sv S) 30 800 (fun r wd => ∃ (code : Int32) (n1 : Int64) (sv1 : Value) (S1 : SX), r = some (.int code) ∧ wd = wH G a o n1 sv1 S1 ∧ H_plusYears S n p0 p1 code n1 S1) := by
  by_cases hM : (vp_in p0 6)
  · by_cases hR : ((¬ p1 < (-100000000 : Int32) ∧ p1 ≤ (100000000 : Int32)))
    · exact ⟨10, 0, 0, by decide, by decide, by decide, Or.inl ⟨_, _, hG_plusYears l hl9 G a o n sv S p0 p1 hM hR.1 hR.2, ⟨_, _, _, _, rfl, rfl, (Or.inr (Or.inr (⟨hM, hR, rfl, rfl, rfl⟩)))⟩⟩⟩
    · exact ⟨10, 1, 6, by decide, by decide, by decide, Or.inl ⟨_, _, hA_plusYears l hl9 G a o n sv S p0 p1 hM hR, ⟨_, _, _, _, rfl, rfl, (Or.inr (Or.inl ⟨hM, hR, rfl, rfl, rfl⟩))⟩⟩⟩
  · exact ⟨10, 1, 6, by decide, by decide, by decide, Or.inl ⟨_, _, hI_plusYears l hl9 G a o n sv S p0 p1 hM, ⟨_, _, _, _, rfl, rfl, (Or.inl ⟨hM, rfl, rfl, rfl⟩)⟩⟩⟩

def H_minusYears (S : SX) (n : Int64) (p0 : Int32) (p1 : Int32) (code : Int32) (n1 : Int64) (S1 : SX) : Prop := (¬ (vp_in p0 6) ∧ code = (1 : Int32) ∧ n1 = n ∧ S1 = S) ∨ ((vp_in p0 6) ∧ ¬ ((¬ p1 < (-100000000 : Int32) ∧ p1 ≤ (100000000 : Int32))) ∧ code = (2 : Int32) ∧ n1 = n ∧ S1 = S) ∨ ((vp_in p0 6) ∧ ((¬ p1 < (-100000000 : Int32) ∧ p1 ≤ (100000000 : Int32))) ∧ code = (0 : Int32) ∧ n1 = ((gX0_minusYears S p0 p1).1.toInt64) ∧ S1 = ((gX0_minusYears S p0 p1).2))
theorem k_minusYears (l : Launch) (hl9 : l.stackTraces = false) (G : GT) (a : Nat → Nat) (o : Nat) (n : Int64) (sv : Value) (S : SX) (p0 : Int32) (p1 : Int32) : HOK l G yL_minusYears cL_minusYears 5 [(0, 11, 14, 25), (0, 11, 18, 19)] [.ref (a 0), .int p0, .int p1, .ref o] (wH G a o n sv S) 30 800 (fun r wd => ∃ (code : Int32) (n1 : Int64) (sv1 : Value) (S1 : SX), r = some (.int code) ∧ wd = wH G a o n1 sv1 S1 ∧ H_minusYears S n p0 p1 code n1 S1) := by
  by_cases hM : (vp_in p0 6)
  · by_cases hR : ((¬ p1 < (-100000000 : Int32) ∧ p1 ≤ (100000000 : Int32)))
    · exact ⟨10, 0, 0, by decide, by decide, by decide, Or.inl ⟨_, _, hG_minusYears l hl9 G a o n sv S p0 p1 hM hR.1 hR.2, ⟨_, _, _, _, rfl, rfl, (Or.inr (Or.inr (⟨hM, hR, rfl, rfl, rfl⟩)))⟩⟩⟩
    · exact ⟨10, 1, 6, by decide, by decide, by decide, Or.inl ⟨_, _, hA_minusYears l hl9 G a o n sv S p0 p1 hM hR, ⟨_, _, _, _, rfl, rfl, (Or.inr (Or.inl ⟨hM, hR, rfl, rfl, rfl⟩))⟩⟩⟩
  · exact ⟨10, 1, 6, by decide, by decide, by decide, Or.inl ⟨_, _, hI_minusYears l hl9 G a o n sv S p0 p1 hM, ⟨_, _, _, _, rfl, rfl, (Or.inl ⟨hM, rfl, rfl, rfl⟩)⟩⟩⟩

def H_plusMonths (S : SX) (n : Int64) (p0 : Int32) (p1 : Int32) (code : Int32) (n1 : Int64) (S1 : SX) : Prop := (¬ (vp_in p0 6) ∧ code = (1 : Int32) ∧ n1 = n ∧ S1 = S) ∨ ((vp_in p0 6) ∧ code = (0 : Int32) ∧ n1 = ((gX0_plusMonths S p0 p1).1.toInt64) ∧ S1 = ((gX0_plusMonths S p0 p1).2))
theorem k_plusMonths (l : Launch) (hl9 : l.stackTraces = false) (G : GT) (a : Nat → Nat) (o : Nat) (n : Int64) (sv : Value) (S : SX) (p0 : Int32) (p1 : Int32) : HOK l G yL_plusMonths cL_plusMonths 5 [(0, 11, 14, 25)] [.ref (a 0), .int p0, .int p1, .ref o] (wH G a o n sv S) 30 800 (fun r wd => ∃ (code : Int32) (n1 : Int64) (sv1 : Value) (S1 : SX), r = some (.int code) ∧ wd = wH G a o n1 sv1 S1 ∧ H_plusMonths S n p0 p1 code n1 S1) := by
  by_cases hM : (vp_in p0 6)
  · exact ⟨10, 0, 0, by decide, by decide, by decide, Or.inl ⟨_, _, hG_plusMonths l hl9 G a o n sv S p0 p1 hM, ⟨_, _, _, _, rfl, rfl, (Or.inr (⟨hM, rfl, rfl, rfl⟩))⟩⟩⟩
  · exact ⟨10, 1, 6, by decide, by decide, by decide, Or.inl ⟨_, _, hI_plusMonths l hl9 G a o n sv S p0 p1 hM, ⟨_, _, _, _, rfl, rfl, (Or.inl ⟨hM, rfl, rfl, rfl⟩)⟩⟩⟩

def H_minusMonths (S : SX) (n : Int64) (p0 : Int32) (p1 : Int32) (code : Int32) (n1 : Int64) (S1 : SX) : Prop := (¬ (vp_in p0 6) ∧ code = (1 : Int32) ∧ n1 = n ∧ S1 = S) ∨ ((vp_in p0 6) ∧ code = (0 : Int32) ∧ n1 = ((gX0_minusMonths S p0 p1).1.toInt64) ∧ S1 = ((gX0_minusMonths S p0 p1).2))
theorem k_minusMonths (l : Launch) (hl9 : l.stackTraces = false) (G : GT) (a : Nat → Nat) (o : Nat) (n : Int64) (sv : Value) (S : SX) (p0 : Int32) (p1 : Int32) : HOK l G yL_minusMonths cL_minusMonths 5 [(0, 11, 14, 25)] [.ref (a 0), .int p0, .int p1, .ref o] (wH G a o n sv S) 30 800 (fun r wd => ∃ (code : Int32) (n1 : Int64) (sv1 : Value) (S1 : SX), r = some (.int code) ∧ wd = wH G a o n1 sv1 S1 ∧ H_minusMonths S n p0 p1 code n1 S1) := by
  by_cases hM : (vp_in p0 6)
  · exact ⟨10, 0, 0, by decide, by decide, by decide, Or.inl ⟨_, _, hG_minusMonths l hl9 G a o n sv S p0 p1 hM, ⟨_, _, _, _, rfl, rfl, (Or.inr (⟨hM, rfl, rfl, rfl⟩))⟩⟩⟩
  · exact ⟨10, 1, 6, by decide, by decide, by decide, Or.inl ⟨_, _, hI_minusMonths l hl9 G a o n sv S p0 p1 hM, ⟨_, _, _, _, rfl, rfl, (Or.inl ⟨hM, rfl, rfl, rfl⟩)⟩⟩⟩

def H_plusWeeks (S : SX) (n : Int64) (p0 : Int32) (p1 : Int32) (code : Int32) (n1 : Int64) (S1 : SX) : Prop := (¬ (vp_in p0 6) ∧ code = (1 : Int32) ∧ n1 = n ∧ S1 = S) ∨ ((vp_in p0 6) ∧ code = (0 : Int32) ∧ n1 = ((gX0_plusWeeks S p0 p1).1.toInt64) ∧ S1 = ((gX0_plusWeeks S p0 p1).2))
theorem k_plusWeeks (l : Launch) (hl9 : l.stackTraces = false) (G : GT) (a : Nat → Nat) (o : Nat) (n : Int64) (sv : Value) (S : SX) (p0 : Int32) (p1 : Int32) : HOK l G yL_plusWeeks cL_plusWeeks 5 [(0, 11, 14, 25)] [.ref (a 0), .int p0, .int p1, .ref o] (wH G a o n sv S) 30 800 (fun r wd => ∃ (code : Int32) (n1 : Int64) (sv1 : Value) (S1 : SX), r = some (.int code) ∧ wd = wH G a o n1 sv1 S1 ∧ H_plusWeeks S n p0 p1 code n1 S1) := by
  by_cases hM : (vp_in p0 6)
  · exact ⟨10, 0, 0, by decide, by decide, by decide, Or.inl ⟨_, _, hG_plusWeeks l hl9 G a o n sv S p0 p1 hM, ⟨_, _, _, _, rfl, rfl, (Or.inr (⟨hM, rfl, rfl, rfl⟩))⟩⟩⟩
  · exact ⟨10, 1, 6, by decide, by decide, by decide, Or.inl ⟨_, _, hI_plusWeeks l hl9 G a o n sv S p0 p1 hM, ⟨_, _, _, _, rfl, rfl, (Or.inl ⟨hM, rfl, rfl, rfl⟩)⟩⟩⟩

def H_minusWeeks (S : SX) (n : Int64) (p0 : Int32) (p1 : Int32) (code : Int32) (n1 : Int64) (S1 : SX) : Prop := (¬ (vp_in p0 6) ∧ code = (1 : Int32) ∧ n1 = n ∧ S1 = S) ∨ ((vp_in p0 6) ∧ code = (0 : Int32) ∧ n1 = ((gX0_minusWeeks S p0 p1).1.toInt64) ∧ S1 = ((gX0_minusWeeks S p0 p1).2))
theorem k_minusWeeks (l : Launch) (hl9 : l.stackTraces = false) (G : GT) (a : Nat → Nat) (o : Nat) (n : Int64) (sv : Value) (S : SX) (p0 : Int32) (p1 : Int32) : HOK l G yL_minusWeeks cL_minusWeeks 5 [(0, 11, 14, 25)] [.ref (a 0), .int p0, .int p1, .ref o] (wH G a o n sv S) 30 800 (fun r wd => ∃ (code : Int32) (n1 : Int64) (sv1 : Value) (S1 : SX), r = some (.int code) ∧ wd = wH G a o n1 sv1 S1 ∧ H_minusWeeks S n p0 p1 code n1 S1) := by
  by_cases hM : (vp_in p0 6)
  · exact ⟨10, 0, 0, by decide, by decide, by decide, Or.inl ⟨_, _, hG_minusWeeks l hl9 G a o n sv S p0 p1 hM, ⟨_, _, _, _, rfl, rfl, (Or.inr (⟨hM, rfl, rfl, rfl⟩))⟩⟩⟩
  · exact ⟨10, 1, 6, by decide, by decide, by decide, Or.inl ⟨_, _, hI_minusWeeks l hl9 G a o n sv S p0 p1 hM, ⟨_, _, _, _, rfl, rfl, (Or.inl ⟨hM, rfl, rfl, rfl⟩)⟩⟩⟩

def H_plusDays (S : SX) (n : Int64) (p0 : Int32) (p1 : Int32) (code : Int32) (n1 : Int64) (S1 : SX) : Prop := (¬ (vp_in p0 6) ∧ code = (1 : Int32) ∧ n1 = n ∧ S1 = S) ∨ ((vp_in p0 6) ∧ code = (0 : Int32) ∧ n1 = ((gX0_plusDays S p0 p1).1.toInt64) ∧ S1 = ((gX0_plusDays S p0 p1).2))
theorem k_plusDays (l : Launch) (hl9 : l.stackTraces = false) (G : GT) (a : Nat → Nat) (o : Nat) (n : Int64) (sv : Value) (S : SX) (p0 : Int32) (p1 : Int32) : HOK l G yL_plusDays cL_plusDays 5 [(0, 11, 14, 25)] [.ref (a 0), .int p0, .int p1, .ref o] (wH G a o n sv S) 30 800 (fun r wd => ∃ (code : Int32) (n1 : Int64) (sv1 : Value) (S1 : SX), r = some (.int code) ∧ wd = wH G a o n1 sv1 S1 ∧ H_plusDays S n p0 p1 code n1 S1) := by
  by_cases hM : (vp_in p0 6)
  · exact ⟨10, 0, 0, by decide, by decide, by decide, Or.inl ⟨_, _, hG_plusDays l hl9 G a o n sv S p0 p1 hM, ⟨_, _, _, _, rfl, rfl, (Or.inr (⟨hM, rfl, rfl, rfl⟩))⟩⟩⟩
  · exact ⟨10, 1, 6, by decide, by decide, by decide, Or.inl ⟨_, _, hI_plusDays l hl9 G a o n sv S p0 p1 hM, ⟨_, _, _, _, rfl, rfl, (Or.inl ⟨hM, rfl, rfl, rfl⟩)⟩⟩⟩

def H_minusDays (S : SX) (n : Int64) (p0 : Int32) (p1 : Int32) (code : Int32) (n1 : Int64) (S1 : SX) : Prop := (¬ (vp_in p0 6) ∧ code = (1 : Int32) ∧ n1 = n ∧ S1 = S) ∨ ((vp_in p0 6) ∧ code = (0 : Int32) ∧ n1 = ((gX0_minusDays S p0 p1).1.toInt64) ∧ S1 = ((gX0_minusDays S p0 p1).2))
theorem k_minusDays (l : Launch) (hl9 : l.stackTraces = false) (G : GT) (a : Nat → Nat) (o : Nat) (n : Int64) (sv : Value) (S : SX) (p0 : Int32) (p1 : Int32) : HOK l G yL_minusDays cL_minusDays 5 [(0, 11, 14, 25)] [.ref (a 0), .int p0, .int p1, .ref o] (wH G a o n sv S) 30 800 (fun r wd => ∃ (code : Int32) (n1 : Int64) (sv1 : Value) (S1 : SX), r = some (.int code) ∧ wd = wH G a o n1 sv1 S1 ∧ H_minusDays S n p0 p1 code n1 S1) := by
  by_cases hM : (vp_in p0 6)
  · exact ⟨10, 0, 0, by decide, by decide, by decide, Or.inl ⟨_, _, hG_minusDays l hl9 G a o n sv S p0 p1 hM, ⟨_, _, _, _, rfl, rfl, (Or.inr (⟨hM, rfl, rfl, rfl⟩))⟩⟩⟩
  · exact ⟨10, 1, 6, by decide, by decide, by decide, Or.inl ⟨_, _, hI_minusDays l hl9 G a o n sv S p0 p1 hM, ⟨_, _, _, _, rfl, rfl, (Or.inl ⟨hM, rfl, rfl, rfl⟩)⟩⟩⟩

def H_plusHours (S : SX) (n : Int64) (p0 : Int32) (p1 : Int32) (code : Int32) (n1 : Int64) (S1 : SX) : Prop := (¬ (vp_in p0 6) ∧ code = (1 : Int32) ∧ n1 = n ∧ S1 = S) ∨ ((vp_in p0 6) ∧ code = (0 : Int32) ∧ n1 = ((gX0_plusHours S p0 p1).1.toInt64) ∧ S1 = ((gX0_plusHours S p0 p1).2))
theorem k_plusHours (l : Launch) (hl9 : l.stackTraces = false) (G : GT) (a : Nat → Nat) (o : Nat) (n : Int64) (sv : Value) (S : SX) (p0 : Int32) (p1 : Int32) : HOK l G yL_plusHours cL_plusHours 5 [(0, 11, 14, 25)] [.ref (a 0), .int p0, .int p1, .ref o] (wH G a o n sv S) 30 800 (fun r wd => ∃ (code : Int32) (n1 : Int64) (sv1 : Value) (S1 : SX), r = some (.int code) ∧ wd = wH G a o n1 sv1 S1 ∧ H_plusHours S n p0 p1 code n1 S1) := by
  by_cases hM : (vp_in p0 6)
  · exact ⟨10, 0, 0, by decide, by decide, by decide, Or.inl ⟨_, _, hG_plusHours l hl9 G a o n sv S p0 p1 hM, ⟨_, _, _, _, rfl, rfl, (Or.inr (⟨hM, rfl, rfl, rfl⟩))⟩⟩⟩
  · exact ⟨10, 1, 6, by decide, by decide, by decide, Or.inl ⟨_, _, hI_plusHours l hl9 G a o n sv S p0 p1 hM, ⟨_, _, _, _, rfl, rfl, (Or.inl ⟨hM, rfl, rfl, rfl⟩)⟩⟩⟩

def H_minusHours (S : SX) (n : Int64) (p0 : Int32) (p1 : Int32) (code : Int32) (n1 : Int64) (S1 : SX) : Prop := (¬ (vp_in p0 6) ∧ code = (1 : Int32) ∧ n1 = n ∧ S1 = S) ∨ ((vp_in p0 6) ∧ code = (0 : Int32) ∧ n1 = ((gX0_minusHours S p0 p1).1.toInt64) ∧ S1 = ((gX0_minusHours S p0 p1).2))
theorem k_minusHours (l : Launch) (hl9 : l.stackTraces = false) (G : GT) (a : Nat → Nat) (o : Nat) (n : Int64) (sv : Value) (S : SX) (p0 : Int32) (p1 : Int32) : HOK l G yL_minusHours cL_minusHours 5 [(0, 11, 14, 25)] [.ref (a 0), .int p0, .int p1, .ref o] (wH G a o n sv S) 30 800 (fun r wd => ∃ (code : Int32) (n1 : Int64) (sv1 : Value) (S1 : SX), r = some (.int code) ∧ wd = wH G a o n1 sv1 S1 ∧ H_minusHours S n p0 p1 code n1 S1) := by
  by_cases hM : (vp_in p0 6)
  · exact ⟨10, 0, 0, by decide, by decide, by decide, Or.inl ⟨_, _, hG_minusHours l hl9 G a o n sv S p0 p1 hM, ⟨_, _, _, _, rfl, rfl, (Or.inr (⟨hM, rfl, rfl, rfl⟩))⟩⟩⟩
  · exact ⟨10, 1, 6, by decide, by decide, by decide, Or.inl ⟨_, _, hI_minusHours l hl9 G a o n sv S p0 p1 hM, ⟨_, _, _, _, rfl, rfl, (Or.inl ⟨hM, rfl, rfl, rfl⟩)⟩⟩⟩

def H_plusMinutes (S : SX) (n : Int64) (p0 : Int32) (p1 : Int32) (code : Int32) (n1 : Int64) (S1 : SX) : Prop := (¬ (vp_in p0 6) ∧ code = (1 : Int32) ∧ n1 = n ∧ S1 = S) ∨ ((vp_in p0 6) ∧ code = (0 : Int32) ∧ n1 = ((gX0_plusMinutes S p0 p1).1.toInt64) ∧ S1 = ((gX0_plusMinutes S p0 p1).2))
theorem k_plusMinutes (l : Launch) (hl9 : l.stackTraces = false) (G : GT) (a : Nat → Nat) (o : Nat) (n : Int64) (sv : Value) (S : SX) (p0 : Int32) (p1 : Int32) : HOK l G yL_plusMinutes cL_plusMinutes 5 [(0, 11, 14, 25)] [.ref (a 0), .int p0, .int p1, .ref o] (wH G a o n sv S) 30 800 (fun r wd => ∃ (code : Int32) (n1 : Int64) (sv1 : Value) (S1 : SX), r = some (.int code) ∧ wd = wH G a o n1 sv1 S1 ∧ H_plusMinutes S n p0 p1 code n1 S1) := by
  by_cases hM : (vp_in p0 6)
  · exact ⟨10, 0, 0, by decide, by decide, by decide, Or.inl ⟨_, _, hG_plusMinutes l hl9 G a o n sv S p0 p1 hM, ⟨_, _, _, _, rfl, rfl, (Or.inr (⟨hM, rfl, rfl, rfl⟩))⟩⟩⟩
  · exact ⟨10, 1, 6, by decide, by decide, by decide, Or.inl ⟨_, _, hI_plusMinutes l hl9 G a o n sv S p0 p1 hM, ⟨_, _, _, _, rfl, rfl, (Or.inl ⟨hM, rfl, rfl, rfl⟩)⟩⟩⟩

def H_minusMinutes (S : SX) (n : Int64) (p0 : Int32) (p1 : Int32) (code : Int32) (n1 : Int64) (S1 : SX) : Prop := (¬ (vp_in p0 6) ∧ code = (1 : Int32) ∧ n1 = n ∧ S1 = S) ∨ ((vp_in p0 6) ∧ code = (0 : Int32) ∧ n1 = ((gX0_minusMinutes S p0 p1).1.toInt64) ∧ S1 = ((gX0_minusMinutes S p0 p1).2))
theorem k_minusMinutes (l : Launch) (hl9 : l.stackTraces = false) (G : GT) (a : Nat → Nat) (o : Nat) (n : Int64) (sv : Value) (S : SX) (p0 : Int32) (p1 : Int32) : HOK l G yL_minusMinutes cL_minusMinutes 5 [(0, 11, 14, 25)] [.ref (a 0), .int p0, .int p1, .ref o] (wH G a o n sv S) 30 800 (fun r wd => ∃ (code : Int32) (n1 : Int64) (sv1 : Value) (S1 : SX), r = some (.int code) ∧ wd = wH G a o n1 sv1 S1 ∧ H_minusMinutes S n p0 p1 code n1 S1) := by
  by_cases hM : (vp_in p0 6)
  · exact ⟨10, 0, 0, by decide, by decide, by decide, Or.inl ⟨_, _, hG_minusMinutes l hl9 G a o n sv S p0 p1 hM, ⟨_, _, _, _, rfl, rfl, (Or.inr (⟨hM, rfl, rfl, rfl⟩))⟩⟩⟩
  · exact ⟨10, 1, 6, by decide, by decide, by decide, Or.inl ⟨_, _, hI_minusMinutes l hl9 G a o n sv S p0 p1 hM, ⟨_, _, _, _, rfl, rfl, (Or.inl ⟨hM, rfl, rfl, rfl⟩)⟩⟩⟩

def H_plusSeconds (S : SX) (n : Int64) (p0 : Int32) (p1 : Int32) (code : Int32) (n1 : Int64) (S1 : SX) : Prop := (¬ (vp_in p0 6) ∧ code = (1 : Int32) ∧ n1 = n ∧ S1 = S) ∨ ((vp_in p0 6) ∧ code = (0 : Int32) ∧ n1 = ((gX0_plusSeconds S p0 p1).1.toInt64) ∧ S1 = ((gX0_plusSeconds S p0 p1).2))
theorem k_plusSeconds (l : Launch) (hl9 : l.stackTraces = false) (G : GT) (a : Nat → Nat) (o : Nat) (n : Int64) (sv : Value) (S : SX) (p0 : Int32) (p1 : Int32) : HOK l G yL_plusSeconds cL_plusSeconds 5 [(0, 11, 14, 25)] [.ref (a 0), .int p0, .int p1, .ref o] (wH G a o n sv S) 30 800 (fun r wd => ∃ (code : Int32) (n1 : Int64) (sv1 : Value) (S1 : SX), r = some (.int code) ∧ wd = wH G a o n1 sv1 S1 ∧ H_plusSeconds S n p0 p1 code n1 S1) := by
  by_cases hM : (vp_in p0 6)
  · exact ⟨10, 0, 0, by decide, by decide, by decide, Or.inl ⟨_, _, hG_plusSeconds l hl9 G a o n sv S p0 p1 hM, ⟨_, _, _, _, rfl, rfl, (Or.inr (⟨hM, rfl, rfl, rfl⟩))⟩⟩⟩
  · exact ⟨10, 1, 6, by decide, by decide, by decide, Or.inl ⟨_, _, hI_plusSeconds l hl9 G a o n sv S p0 p1 hM, ⟨_, _, _, _, rfl, rfl, (Or.inl ⟨hM, rfl, rfl, rfl⟩)⟩⟩⟩

def H_minusSeconds (S : SX) (n : Int64) (p0 : Int32) (p1 : Int32) (code : Int32) (n1 : Int64) (S1 : SX) : Prop := (¬ (vp_in p0 6) ∧ code = (1 : Int32) ∧ n1 = n ∧ S1 = S) ∨ ((vp_in p0 6) ∧ code = (0 : Int32) ∧ n1 = ((gX0_minusSeconds S p0 p1).1.toInt64) ∧ S1 = ((gX0_minusSeconds S p0 p1).2))
theorem k_minusSeconds (l : Launch) (hl9 : l.stackTraces = false) (G : GT) (a : Nat → Nat) (o : Nat) (n : Int64) (sv : Value) (S : SX) (p0 : Int32) (p1 : Int32) : HOK l G yL_minusSeconds cL_minusSeconds 5 [(0, 11, 14, 25)] [.ref (a 0), .int p0, .int p1, .ref o] (wH G a o n sv S) 30 800 (fun r wd => ∃ (code : Int32) (n1 : Int64) (sv1 : Value) (S1 : SX), r = some (.int code) ∧ wd = wH G a o n1 sv1 S1 ∧ H_minusSeconds S n p0 p1 code n1 S1) := by
  by_cases hM : (vp_in p0 6)
  · exact ⟨10, 0, 0, by decide, by decide, by decide, Or.inl ⟨_, _, hG_minusSeconds l hl9 G a o n sv S p0 p1 hM, ⟨_, _, _, _, rfl, rfl, (Or.inr (⟨hM, rfl, rfl, rfl⟩))⟩⟩⟩
  · exact ⟨10, 1, 6, by decide, by decide, by decide, Or.inl ⟨_, _, hI_minusSeconds l hl9 G a o n sv S p0 p1 hM, ⟨_, _, _, _, rfl, rfl, (Or.inl ⟨hM, rfl, rfl, rfl⟩)⟩⟩⟩

def H_plusNanos (S : SX) (n : Int64) (p0 : Int32) (p1 : Int32) (p2 : Int32) (code : Int32) (n1 : Int64) (S1 : SX) : Prop := (¬ (vp_in p0 6) ∧ code = (1 : Int32) ∧ n1 = n ∧ S1 = S) ∨ ((vp_in p0 6) ∧ code = (0 : Int32) ∧ n1 = ((gX0_plusNanos S p0 p1 p2).1.toInt64) ∧ S1 = ((gX0_plusNanos S p0 p1 p2).2))
theorem k_plusNanos (l : Launch) (hl9 : l.stackTraces = false) (G : GT) (a : Nat → Nat) (o : Nat) (n : Int64) (sv : Value) (S : SX) (p0 : Int32) (p1 : Int32) (p2 : Int32) : HOK l G yL_plusNanos cL_plusNanos 6 [(0, 13, 16, 25)] [.ref (a 0), .int p0, .int p1, .int p2, .ref o] (wH G a o n sv S) 30 800 (fun r wd => ∃ (code : Int32) (n1 : Int64) (sv1 : Value) (S1 : SX), r = some (.int code) ∧ wd = wH G a o n1 sv1 S1 ∧ H_plusNanos S n p0 p1 p2 code n1 S1) := by
  by_cases hM : (vp_in p0 6)
  · exact ⟨10, 0, 0, by decide, by decide, by decide, Or.inl ⟨_, _, hG_plusNanos l hl9 G a o n sv S p0 p1 p2 hM, ⟨_, _, _, _, rfl, rfl, (Or.inr (⟨hM, rfl, rfl, rfl⟩))⟩⟩⟩
  · exact ⟨10, 1, 6, by decide, by decide, by decide, Or.inl ⟨_, _, hI_plusNanos l hl9 G a o n sv S p0 p1 p2 hM, ⟨_, _, _, _, rfl, rfl, (Or.inl ⟨hM, rfl, rfl, rfl⟩)⟩⟩⟩

def H_minusNanos (S : SX) (n : Int64) (p0 : Int32) (p1 : Int32) (p2 : Int32) (code : Int32) (n1 : Int64) (S1 : SX) : Prop := (¬ (vp_in p0 6) ∧ code = (1 : Int32) ∧ n1 = n ∧ S1 = S) ∨ ((vp_in p0 6) ∧ code = (0 : Int32) ∧ n1 = ((gX0_minusNanos S p0 p1 p2).1.toInt64) ∧ S1 = ((gX0_minusNanos S p0 p1 p2).2))
theorem k_minusNanos (l : Launch) (hl9 : l.stackTraces = false) (G : GT) (a : Nat → Nat) (o : Nat) (n : Int64) (sv : Value) (S : SX) (p0 : Int32) (p1 : Int32) (p2 : Int32) : HOK l G yL_minusNanos cL_minusNanos 6 [(0, 13, 16, 25)] [.ref (a 0), .int p0, .int p1, .int p2, .ref o] (wH G a o n sv S) 30 800 (fun r wd => ∃ (code : Int32) (n1 : Int64) (sv1 : Value) (S1 : SX), r = some (.int code) ∧ wd = wH G a o n1 sv1 S1 ∧ H_minusNanos S n p0 p1 p2 code n1 S1) := by
  by_cases hM : (vp_in p0 6)
  · exact ⟨10, 0, 0, by decide, by decide, by decide, Or.inl ⟨_, _, hG_minusNanos l hl9 G a o n sv S p0 p1 p2 hM, ⟨_, _, _, _, rfl, rfl, (Or.inr (⟨hM, rfl, rfl, rfl⟩))⟩⟩⟩
  · exact ⟨10, 1, 6, by decide, by decide, by decide, Or.inl ⟨_, _, hI_minusNanos l hl9 G a o n sv S p0 p1 p2 hM, ⟨_, _, _, _, rfl, rfl, (Or.inl ⟨hM, rfl, rfl, rfl⟩)⟩⟩⟩

def H_plusUnits (S : SX) (n : Int64) (p0 : Int32) (p1 : Int32) (p2 : Int32) (code : Int32) (n1 : Int64) (S1 : SX) : Prop := (¬ (vp_in p0 6) ∧ code = (1 : Int32) ∧ n1 = n ∧ S1 = S) ∨ ((vp_in p0 6) ∧ ¬ ((¬ p1 < (-100000 : Int32) ∧ p1 ≤ (100000 : Int32)) ∧ (¬ p2 < (0 : Int32) ∧ p2 ≤ (13 : Int32))) ∧ code = (2 : Int32) ∧ n1 = n ∧ S1 = S) ∨ ((vp_in p0 6) ∧ ((¬ p1 < (-100000 : Int32) ∧ p1 ≤ (100000 : Int32)) ∧ (¬ p2 < (0 : Int32) ∧ p2 ≤ (13 : Int32))) ∧ code = (0 : Int32) ∧ n1 = ((gX0_plusUnits S p0 p1 p2).1.toInt64) ∧ S1 = ((gX0_plusUnits S p0 p1 p2).2))
theorem k_plusUnits (l : Launch) (hl9 : l.stackTraces = false) (G : GT) (a : Nat → Nat) (o : Nat) (n : Int64) (sv : Value) (S : SX) (p0 : Int32) (p1 : Int32) (p2 : Int32) : HOK l G yL_plusUnits cL_plusUnits 6 [(0, 13, 16, 25), (0, 13, 20, 19)] [.ref (a 0), .int p0, .int p1, .int p2, .ref o] (wH G a o n sv S) 30 800 (fun r wd => ∃ (code : Int32) (n1 : Int64) (sv1 : Value) (S1 : SX), r = some (.int code) ∧ wd = wH G a o n1 sv1 S1 ∧ H_plusUnits S n p0 p1 p2 code n1 S1) := by
  by_cases hM : (vp_in p0 6)
  · by_cases hR : ((¬ p1 < (-100000 : Int32) ∧ p1 ≤ (100000 : Int32)) ∧ (¬ p2 < (0 : Int32) ∧ p2 ≤ (13 : Int32)))
    · exact ⟨10, 0, 0, by decide, by decide, by decide, Or.inl ⟨_, _, hG_plusUnits l hl9 G a o n sv S p0 p1 p2 hM hR.1.1 hR.1.2 hR.2.1 hR.2.2, ⟨_, _, _, _, rfl, rfl, (Or.inr (Or.inr (⟨hM, hR, rfl, rfl, rfl⟩)))⟩⟩⟩
    · exact ⟨10, 1, 6, by decide, by decide, by decide, Or.inl ⟨_, _, hA_plusUnits l hl9 G a o n sv S p0 p1 p2 hM hR, ⟨_, _, _, _, rfl, rfl, (Or.inr (Or.inl ⟨hM, hR, rfl, rfl, rfl⟩))⟩⟩⟩
  · exact ⟨10, 1, 6, by decide, by decide, by decide, Or.inl ⟨_, _, hI_plusUnits l hl9 G a o n sv S p0 p1 p2 hM, ⟨_, _, _, _, rfl, rfl, (Or.inl ⟨hM, rfl, rfl, rfl⟩)⟩⟩⟩

def H_year (S : SX) (n : Int64) (p0 : Int32) (code : Int32) (n1 : Int64) (S1 : SX) : Prop := (¬ (vp_in p0 6) ∧ code = (1 : Int32) ∧ n1 = n ∧ S1 = S) ∨ ((vp_in p0 6) ∧ code = (0 : Int32) ∧ n1 = ((fX0_year S p0).toInt64) ∧ S1 = S)
theorem k_year (l : Launch) (hl9 : l.stackTraces = false) (G : GT) (a : Nat → Nat) (o : Nat) (n : Int64) (sv : Value) (S : SX) (p0 : Int32) : HOK l G yL_year cL_year 4 [(0, 10, 13, 25)] [.ref (a 0), .int p0, .ref o] (wH G a o n sv S) 30 800 (fun r wd => ∃ (code : Int32) (n1 : Int64) (sv1 : Value) (S1 : SX), r = some (.int code) ∧ wd = wH G a o n1 sv1 S1 ∧ H_year S n p0 code n1 S1) := by
  by_cases hM : (vp_in p0 6)
  · exact ⟨10, 0, 0, by decide, by decide, by decide, Or.inl ⟨_, _, hG_year l hl9 G a o n sv S p0 hM, ⟨_, _, _, _, rfl, rfl, (Or.inr (⟨hM, rfl, rfl, rfl⟩))⟩⟩⟩
  · exact ⟨10, 1, 6, by decide, by decide, by decide, Or.inl ⟨_, _, hI_year l hl9 G a o n sv S p0 hM, ⟨_, _, _, _, rfl, rfl, (Or.inl ⟨hM, rfl, rfl, rfl⟩)⟩⟩⟩

def H_month (S : SX) (n : Int64) (p0 : Int32) (code : Int32) (n1 : Int64) (S1 : SX) : Prop := (¬ (vp_in p0 6) ∧ code = (1 : Int32) ∧ n1 = n ∧ S1 = S) ∨ ((vp_in p0 6) ∧ code = (0 : Int32) ∧ n1 = ((fX0_month S p0).toInt64) ∧ S1 = S)
theorem k_month (l : Launch) (hl9 : l.stackTraces = false) (G : GT) (a : Nat → Nat) (o : Nat) (n : Int64) (sv : Value) (S : SX) (p0 : Int32) : HOK l G yL_month cL_month 4 [(0, 10, 13, 25)] [.ref (a 0), .int p0, .ref o] (wH G a o n sv S) 30 800 (fun r wd => ∃ (code : Int32) (n1 : Int64) (sv1 : Value) (S1 : SX), r = some (.int code) ∧ wd = wH G a o n1 sv1 S1 ∧ H_month S n p0 code n1 S1) := by
  by_cases hM : (vp_in p0 6)
  · exact ⟨10, 0, 0, by decide, by decide, by decide, Or.inl ⟨_, _, hG_month l hl9 G a o n sv S p0 hM, ⟨_, _, _, _, rfl, rfl, (Or.inr (⟨hM, rfl, rfl, rfl⟩))⟩⟩⟩
  · exact ⟨10, 1, 6, by decide, by decide, by decide, Or.inl ⟨_, _, hI_month l hl9 G a o n sv S p0 hM, ⟨_, _, _, _, rfl, rfl, (Or.inl ⟨hM, rfl, rfl, rfl⟩)⟩⟩⟩

def H_dayOfMonth (S : SX) (n : Int64) (p0 : Int32) (code : Int32) (n1 : Int64) (S1 : SX) : Prop := (¬ (vp_in p0 6) ∧ code = (1 : Int32) ∧ n1 = n ∧ S1 = S) ∨ ((vp_in p0 6) ∧ code = (0 : Int32) ∧ n1 = ((fX0_dayOfMonth S p0).toInt64) ∧ S1 = S)
theorem k_dayOfMonth (l : Launch) (hl9 : l.stackTraces = false) (G : GT) (a : Nat → Nat) (o : Nat) (n : Int64) (sv : Value) (S : SX) (p0 : Int32) : HOK l G yL_dayOfMonth cL_dayOfMonth 4 [(0, 10, 13, 25)] [.ref (a 0), .int p0, .ref o] (wH G a o n sv S) 30 800 (fun r wd => ∃ (code : Int32) (n1 : Int64) (sv1 : Value) (S1 : SX), r = some (.int code) ∧ wd = wH G a o n1 sv1 S1 ∧ H_dayOfMonth S n p0 code n1 S1) := by
  by_cases hM : (vp_in p0 6)
  · exact ⟨10, 0, 0, by decide, by decide, by decide, Or.inl ⟨_, _, hG_dayOfMonth l hl9 G a o n sv S p0 hM, ⟨_, _, _, _, rfl, rfl, (Or.inr (⟨hM, rfl, rfl, rfl⟩))⟩⟩⟩
  · exact ⟨10, 1, 6, by decide, by decide, by decide, Or.inl ⟨_, _, hI_dayOfMonth l hl9 G a o n sv S p0 hM, ⟨_, _, _, _, rfl, rfl, (Or.inl ⟨hM, rfl, rfl, rfl⟩)⟩⟩⟩

def H_dayOfYear (S : SX) (n : Int64) (p0 : Int32) (code : Int32) (n1 : Int64) (S1 : SX) : Prop := (¬ (vp_in p0 6) ∧ code = (1 : Int32) ∧ n1 = n ∧ S1 = S) ∨ ((vp_in p0 6) ∧ code = (0 : Int32) ∧ n1 = ((fX0_dayOfYear S p0).toInt64) ∧ S1 = S)
theorem k_dayOfYear (l : Launch) (hl9 : l.stackTraces = false) (G : GT) (a : Nat → Nat) (o : Nat) (n : Int64) (sv : Value) (S : SX) (p0 : Int32) : HOK l G yL_dayOfYear cL_dayOfYear 4 [(0, 10, 13, 25)] [.ref (a 0), .int p0, .ref o] (wH G a o n sv S) 30 800 (fun r wd => ∃ (code : Int32) (n1 : Int64) (sv1 : Value) (S1 : SX), r = some (.int code) ∧ wd = wH G a o n1 sv1 S1 ∧ H_dayOfYear S n p0 code n1 S1) := by
  by_cases hM : (vp_in p0 6)
  · exact ⟨10, 0, 0, by decide, by decide, by decide, Or.inl ⟨_, _, hG_dayOfYear l hl9 G a o n sv S p0 hM, ⟨_, _, _, _, rfl, rfl, (Or.inr (⟨hM, rfl, rfl, rfl⟩))⟩⟩⟩
  · exact ⟨10, 1, 6, by decide, by decide, by decide, Or.inl ⟨_, _, hI_dayOfYear l hl9 G a o n sv S p0 hM, ⟨_, _, _, _, rfl, rfl, (Or.inl ⟨hM, rfl, rfl, rfl⟩)⟩⟩⟩

def H_dayOfWeek (S : SX) (n : Int64) (p0 : Int32) (code : Int32) (n1 : Int64) (S1 : SX) : Prop := (¬ (vp_in p0 6) ∧ code = (1 : Int32) ∧ n1 = n ∧ S1 = S) ∨ ((vp_in p0 6) ∧ code = (0 : Int32) ∧ n1 = ((fX0_dayOfWeek S p0).toInt64) ∧ S1 = S)
theorem k_dayOfWeek (l : Launch) (hl9 : l.stackTraces = false) (G : GT) (a : Nat → Nat) (o : Nat) (n : Int64) (sv : Value) (S : SX) (p0 : Int32) : HOK l G yL_dayOfWeek cL_dayOfWeek 4 [(0, 10, 13, 25)] [.ref (a 0), .int p0, .ref o] (wH G a o n sv S) 30 800 (fun r wd => ∃ (code : Int32) (n1 : Int64) (sv1 : Value) (S1 : SX), r = some (.int code) ∧ wd = wH G a o n1 sv1 S1 ∧ H_dayOfWeek S n p0 code n1 S1) := by
  by_cases hM : (vp_in p0 6)
  · exact ⟨10, 0, 0, by decide, by decide, by decide, Or.inl ⟨_, _, hG_dayOfWeek l hl9 G a o n sv S p0 hM, ⟨_, _, _, _, rfl, rfl, (Or.inr (⟨hM, rfl, rfl, rfl⟩))⟩⟩⟩
  · exact ⟨10, 1, 6, by decide, by decide, by decide, Or.inl ⟨_, _, hI_dayOfWeek l hl9 G a o n sv S p0 hM, ⟨_, _, _, _, rfl, rfl, (Or.inl ⟨hM, rfl, rfl, rfl⟩)⟩⟩⟩

def H_hour (S : SX) (n : Int64) (p0 : Int32) (code : Int32) (n1 : Int64) (S1 : SX) : Prop := (¬ (vp_in p0 6) ∧ code = (1 : Int32) ∧ n1 = n ∧ S1 = S) ∨ ((vp_in p0 6) ∧ code = (0 : Int32) ∧ n1 = ((fX0_hour S p0).toInt64) ∧ S1 = S)
theorem k_hour (l : Launch) (hl9 : l.stackTraces = false) (G : GT) (a : Nat → Nat) (o : Nat) (n : Int64) (sv : Value) (S : SX) (p0 : Int32) : HOK l G yL_hour cL_hour 4 [(0, 10, 13, 25)] [.ref (a 0), .int p0, .ref o] (wH G a o n sv S) 30 800 (fun r wd => ∃ (code : Int32) (n1 : Int64) (sv1 : Value) (S1 : SX), r = some (.int code) ∧ wd = wH G a o n1 sv1 S1 ∧ H_hour S n p0 code n1 S1) := by
  by_cases hM : (vp_in p0 6)
  · exact ⟨10, 0, 0, by decide, by decide, by decide, Or.inl ⟨_, _, hG_hour l hl9 G a o n sv S p0 hM, ⟨_, _, _, _, rfl, rfl, (Or.inr (⟨hM, rfl, rfl, rfl⟩))⟩⟩⟩
  · exact ⟨10, 1, 6, by decide, by decide, by decide, Or.inl ⟨_, _, hI_hour l hl9 G a o n sv S p0 hM, ⟨_, _, _, _, rfl, rfl, (Or.inl ⟨hM, rfl, rfl, rfl⟩)⟩⟩⟩

def H_minute (S : SX) (n : Int64) (p0 : Int32) (code : Int32) (n1 : Int64) (S1 : SX) : Prop := (¬ (vp_in p0 6) ∧ code = (1 : Int32) ∧ n1 = n ∧ S1 = S) ∨ ((vp_in p0 6) ∧ code = (0 : Int32) ∧ n1 = ((fX0_minute S p0).toInt64) ∧ S1 = S)
theorem k_minute (l : Launch) (hl9 : l.stackTraces = false) (G : GT) (a : Nat → Nat) (o : Nat) (n : Int64) (sv : Value) (S : SX) (p0 : Int32) : HOK l G yL_minute cL_minute 4 [(0, 10, 13, 25)] [.ref (a 0), .int p0, .ref o] (wH G a o n sv S) 30 800 (fun r wd => ∃ (code : Int32) (n1 : Int64) (sv1 : Value) (S1 : SX), r = some (.int code) ∧ wd = wH G a o n1 sv1 S1 ∧ H_minute S n p0 code n1 S1) := by
  by_cases hM : (vp_in p0 6)
  · exact ⟨10, 0, 0, by decide, by decide, by decide, Or.inl ⟨_, _, hG_minute l hl9 G a o n sv S p0 hM, ⟨_, _, _, _, rfl, rfl, (Or.inr (⟨hM, rfl, rfl, rfl⟩))⟩⟩⟩
  · exact ⟨10, 1, 6, by decide, by decide, by decide, Or.inl ⟨_, _, hI_minute l hl9 G a o n sv S p0 hM, ⟨_, _, _, _, rfl, rfl, (Or.inl ⟨hM, rfl, rfl, rfl⟩)⟩⟩⟩

def H_second (S : SX) (n : Int64) (p0 : Int32) (code : Int32) (n1 : Int64) (S1 : SX) : Prop := (¬ (vp_in p0 6) ∧ code = (1 : Int32) ∧ n1 = n ∧ S1 = S) ∨ ((vp_in p0 6) ∧ code = (0 : Int32) ∧ n1 = ((fX0_second S p0).toInt64) ∧ S1 = S)
theorem k_second (l : Launch) (hl9 : l.stackTraces = false) (G : GT) (a : Nat → Nat) (o : Nat) (n : Int64) (sv : Value) (S : SX) (p0 : Int32) : HOK l G yL_second cL_second 4 [(0, 10, 13, 25)] [.ref (a 0), .int p0, .ref o] (wH G a o n sv S) 30 800 (fun r wd => ∃ (code : Int32) (n1 : Int64) (sv1 : Value) (S1 : SX), r = some (.int code) ∧ wd = wH G a o n1 sv1 S1 ∧ H_second S n p0 code n1 S1) := by
  by_cases hM : (vp_in p0 6)
  · exact ⟨10, 0, 0, by decide, by decide, by decide, Or.inl ⟨_, _, hG_second l hl9 G a o n sv S p0 hM, ⟨_, _, _, _, rfl, rfl, (Or.inr (⟨hM, rfl, rfl, rfl⟩))⟩⟩⟩
  · exact ⟨10, 1, 6, by decide, by decide, by decide, Or.inl ⟨_, _, hI_second l hl9 G a o n sv S p0 hM, ⟨_, _, _, _, rfl, rfl, (Or.inl ⟨hM, rfl, rfl, rfl⟩)⟩⟩⟩

def H_nano (S : SX) (n : Int64) (p0 : Int32) (code : Int32) (n1 : Int64) (S1 : SX) : Prop := (¬ (vp_in p0 6) ∧ code = (1 : Int32) ∧ n1 = n ∧ S1 = S) ∨ ((vp_in p0 6) ∧ code = (0 : Int32) ∧ n1 = ((fX0_nano S p0).toInt64) ∧ S1 = S)
theorem k_nano (l : Launch) (hl9 : l.stackTraces = false) (G : GT) (a : Nat → Nat) (o : Nat) (n : Int64) (sv : Value) (S : SX) (p0 : Int32) : HOK l G yL_nano cL_nano 4 [(0, 10, 13, 25)] [.ref (a 0), .int p0, .ref o] (wH G a o n sv S) 30 800 (fun r wd => ∃ (code : Int32) (n1 : Int64) (sv1 : Value) (S1 : SX), r = some (.int code) ∧ wd = wH G a o n1 sv1 S1 ∧ H_nano S n p0 code n1 S1) := by
  by_cases hM : (vp_in p0 6)
  · exact ⟨10, 0, 0, by decide, by decide, by decide, Or.inl ⟨_, _, hG_nano l hl9 G a o n sv S p0 hM, ⟨_, _, _, _, rfl, rfl, (Or.inr (⟨hM, rfl, rfl, rfl⟩))⟩⟩⟩
  · exact ⟨10, 1, 6, by decide, by decide, by decide, Or.inl ⟨_, _, hI_nano l hl9 G a o n sv S p0 hM, ⟨_, _, _, _, rfl, rfl, (Or.inl ⟨hM, rfl, rfl, rfl⟩)⟩⟩⟩

def H_day (S : SX) (n : Int64) (p0 : Int32) (code : Int32) (n1 : Int64) (S1 : SX) : Prop := (¬ (vp_in p0 6) ∧ code = (1 : Int32) ∧ n1 = n ∧ S1 = S) ∨ ((vp_in p0 6) ∧ code = (0 : Int32) ∧ n1 = ((fX0_day S p0).toInt64) ∧ S1 = S)
theorem k_day (l : Launch) (hl9 : l.stackTraces = false) (G : GT) (a : Nat → Nat) (o : Nat) (n : Int64) (sv : Value) (S : SX) (p0 : Int32) : HOK l G yL_day cL_day 4 [(0, 10, 13, 25)] [.ref (a 0), .int p0, .ref o] (wH G a o n sv S) 30 800 (fun r wd => ∃ (code : Int32) (n1 : Int64) (sv1 : Value) (S1 : SX), r = some (.int code) ∧ wd = wH G a o n1 sv1 S1 ∧ H_day S n p0 code n1 S1) := by
  by_cases hM : (vp_in p0 6)
  · exact ⟨10, 0, 0, by decide, by decide, by decide, Or.inl ⟨_, _, hG_day l hl9 G a o n sv S p0 hM, ⟨_, _, _, _, rfl, rfl, (Or.inr (⟨hM, rfl, rfl, rfl⟩))⟩⟩⟩
  · exact ⟨10, 1, 6, by decide, by decide, by decide, Or.inl ⟨_, _, hI_day l hl9 G a o n sv S p0 hM, ⟨_, _, _, _, rfl, rfl, (Or.inl ⟨hM, rfl, rfl, rfl⟩)⟩⟩⟩

def H_secondOfDay (S : SX) (n : Int64) (p0 : Int32) (code : Int32) (n1 : Int64) (S1 : SX) : Prop := (¬ (vp_in p0 6) ∧ code = (1 : Int32) ∧ n1 = n ∧ S1 = S) ∨ ((vp_in p0 6) ∧ code = (0 : Int32) ∧ n1 = ((fX0_secondOfDay S p0).toInt64) ∧ S1 = S)
theorem k_secondOfDay (l : Launch) (hl9 : l.stackTraces = false) (G : GT) (a : Nat → Nat) (o : Nat) (n : Int64) (sv : Value) (S : SX) (p0 : Int32) : HOK l G yL_secondOfDay cL_secondOfDay 4 [(0, 10, 13, 25)] [.ref (a 0), .int p0, .ref o] (wH G a o n sv S) 30 800 (fun r wd => ∃ (code : Int32) (n1 : Int64) (sv1 : Value) (S1 : SX), r = some (.int code) ∧ wd = wH G a o n1 sv1 S1 ∧ H_secondOfDay S n p0 code n1 S1) := by
  by_cases hM : (vp_in p0 6)
  · exact ⟨10, 0, 0, by decide, by decide, by decide, Or.inl ⟨_, _, hG_secondOfDay l hl9 G a o n sv S p0 hM, ⟨_, _, _, _, rfl, rfl, (Or.inr (⟨hM, rfl, rfl, rfl⟩))⟩⟩⟩
  · exact ⟨10, 1, 6, by decide, by decide, by decide, Or.inl ⟨_, _, hI_secondOfDay l hl9 G a o n sv S p0 hM, ⟨_, _, _, _, rfl, rfl, (Or.inl ⟨hM, rfl, rfl, rfl⟩)⟩⟩⟩

def H_lengthOfMonth (S : SX) (n : Int64) (p0 : Int32) (code : Int32) (n1 : Int64) (S1 : SX) : Prop := (¬ (vp_in p0 6) ∧ code = (1 : Int32) ∧ n1 = n ∧ S1 = S) ∨ ((vp_in p0 6) ∧ code = (0 : Int32) ∧ n1 = ((fX0_lengthOfMonth S p0).toInt64) ∧ S1 = S)
theorem k_lengthOfMonth (l : Launch) (hl9 : l.stackTraces = false) (G : GT) (a : Nat → Nat) (o : Nat) (n : Int64) (sv : Value) (S : SX) (p0 : Int32) : HOK l G yL_lengthOfMonth cL_lengthOfMonth 4 [(0, 10, 13, 25)] [.ref (a 0), .int p0, .ref o] (wH G a o n sv S) 30 800 (fun r wd => ∃ (code : Int32) (n1 : Int64) (sv1 : Value) (S1 : SX), r = some (.int code) ∧ wd = wH G a o n1 sv1 S1 ∧ H_lengthOfMonth S n p0 code n1 S1) := by
  by_cases hM : (vp_in p0 6)
  · exact ⟨10, 0, 0, by decide, by decide, by decide, Or.inl ⟨_, _, hG_lengthOfMonth l hl9 G a o n sv S p0 hM, ⟨_, _, _, _, rfl, rfl, (Or.inr (⟨hM, rfl, rfl, rfl⟩))⟩⟩⟩
  · exact ⟨10, 1, 6, by decide, by decide, by decide, Or.inl ⟨_, _, hI_lengthOfMonth l hl9 G a o n sv S p0 hM, ⟨_, _, _, _, rfl, rfl, (Or.inl ⟨hM, rfl, rfl, rfl⟩)⟩⟩⟩

def H_nanoOfDay (S : SX) (n : Int64) (p0 : Int32) (code : Int32) (n1 : Int64) (S1 : SX) : Prop := (¬ (vp_in p0 6) ∧ code = (1 : Int32) ∧ n1 = n ∧ S1 = S) ∨ ((vp_in p0 6) ∧ code = (0 : Int32) ∧ n1 = n ∧ S1 = (gX0_nanoOfDay S p0))
theorem k_nanoOfDay (l : Launch) (hl9 : l.stackTraces = false) (G : GT) (a : Nat → Nat) (o : Nat) (n : Int64) (sv : Value) (S : SX) (p0 : Int32) : HOK l G yL_nanoOfDay cL_nanoOfDay 4 [(0, 9, 12, 25)] [.ref (a 0), .int p0, .ref o] (wH G a o n sv S) 30 800 (fun r wd => ∃ (code : Int32) (n1 : Int64) (sv1 : Value) (S1 : SX) (ws : va_W), r = some (.int code) ∧ wd = wH G a o n1 sv1 S1 ++ ws ∧ H_nanoOfDay S n p0 code n1 S1 ∧ (code = 0 → ∃ q : Nat, sv1 = .ref q ∧ TXO G q (oX0_nanoOfDay S p0) ws)) := by
  by_cases hM : (vp_in p0 6)
  · refine ⟨12, 30, 800, by decide, by decide, by decide, Or.inr (fun sz => ?_)⟩
    exact HU_imp (hT_nanoOfDay l G a o n sv S p0 hM) (fun r wd z => by
      obtain ⟨rfl, q, ws, rfl, ht⟩ := z
      exact ⟨0, n, .ref q, _, ws, rfl, rfl, (Or.inr (⟨hM, rfl, rfl, rfl⟩)), fun _ => ⟨q, rfl, ht⟩⟩) sz
  · exact ⟨10, 1, 6, by decide, by decide, by decide, Or.inl ⟨_, _, hI_nanoOfDay l hl9 G a o n sv S p0 hM, ⟨_, _, _, _, [], rfl, (List.append_nil _).symm, (Or.inl ⟨hM, rfl, rfl, rfl⟩), fun z => absurd z (by decide)⟩⟩⟩

def H_isLeap (S : SX) (n : Int64) (p0 : Int32) (code : Int32) (n1 : Int64) (S1 : SX) : Prop := (¬ (vp_in p0 6) ∧ code = (1 : Int32) ∧ n1 = n ∧ S1 = S) ∨ ((vp_in p0 6) ∧ code = (0 : Int32) ∧ n1 = (fz9 (fX0_isLeap S p0)) ∧ S1 = S)
theorem k_isLeap (l : Launch) (hl9 : l.stackTraces = false) (G : GT) (a : Nat → Nat) (o : Nat) (n : Int64) (sv : Value) (S : SX) (p0 : Int32) : HOK l G yL_isLeap cL_isLeap 4 [(0, 17, 20, 25)] [.ref (a 0), .int p0, .ref o] (wH G a o n sv S) 30 800 (fun r wd => ∃ (code : Int32) (n1 : Int64) (sv1 : Value) (S1 : SX), r = some (.int code) ∧ wd = wH G a o n1 sv1 S1 ∧ H_isLeap S n p0 code n1 S1) := by
  by_cases hM : (vp_in p0 6)
  · exact ⟨10, 0, 0, by decide, by decide, by decide, Or.inl ⟨_, _, hG_isLeap l hl9 G a o n sv S p0 hM, ⟨_, _, _, _, rfl, rfl, (Or.inr (⟨hM, rfl, rfl, rfl⟩))⟩⟩⟩
  · exact ⟨10, 1, 6, by decide, by decide, by decide, Or.inl ⟨_, _, hI_isLeap l hl9 G a o n sv S p0 hM, ⟨_, _, _, _, rfl, rfl, (Or.inl ⟨hM, rfl, rfl, rfl⟩)⟩⟩⟩

def H_field (S : SX) (n : Int64) (p0 : Int32) (p1 : Int32) (code : Int32) (n1 : Int64) (S1 : SX) : Prop := (¬ (vp_in p0 6) ∧ code = (1 : Int32) ∧ n1 = n ∧ S1 = S) ∨ ((vp_in p0 6) ∧ ¬ ((¬ p1 < (0 : Int32) ∧ p1 ≤ (27 : Int32))) ∧ code = (2 : Int32) ∧ n1 = n ∧ S1 = S) ∨ ((vp_in p0 6) ∧ ((¬ p1 < (0 : Int32) ∧ p1 ≤ (27 : Int32))) ∧ code = (0 : Int32) ∧ n1 = n ∧ S1 = (gX0_field S p0 p1))
theorem k_field (l : Launch) (hl9 : l.stackTraces = false) (G : GT) (a : Nat → Nat) (o : Nat) (n : Int64) (sv : Value) (S : SX) (p0 : Int32) (p1 : Int32) : HOK l G yL_field cL_field 5 [(0, 10, 13, 25), (0, 10, 17, 19)] [.ref (a 0), .int p0, .int p1, .ref o] (wH G a o n sv S) 30 800 (fun r wd => ∃ (code : Int32) (n1 : Int64) (sv1 : Value) (S1 : SX) (ws : va_W), r = some (.int code) ∧ wd = wH G a o n1 sv1 S1 ++ ws ∧ H_field S n p0 p1 code n1 S1 ∧ (code = 0 → ∃ q : Nat, sv1 = .ref q ∧ TXO G q (oX0_field S p0 p1) ws)) := by
  by_cases hM : (vp_in p0 6)
  · by_cases hR : ((¬ p1 < (0 : Int32) ∧ p1 ≤ (27 : Int32)))
    · refine ⟨12, 30, 800, by decide, by decide, by decide, Or.inr (fun sz => ?_)⟩
      exact HU_imp (hT_field l G a o n sv S p0 p1 hM hR.1 hR.2) (fun r wd z => by
        obtain ⟨rfl, q, ws, rfl, ht⟩ := z
        exact ⟨0, n, .ref q, _, ws, rfl, rfl, (Or.inr (Or.inr (⟨hM, hR, rfl, rfl, rfl⟩))), fun _ => ⟨q, rfl, ht⟩⟩) sz
    · exact ⟨10, 1, 6, by decide, by decide, by decide, Or.inl ⟨_, _, hA_field l hl9 G a o n sv S p0 p1 hM hR, ⟨_, _, _, _, [], rfl, (List.append_nil _).symm, (Or.inr (Or.inl ⟨hM, hR, rfl, rfl, rfl⟩)), fun z => absurd z (by decide)⟩⟩⟩
  · exact ⟨10, 1, 6, by decide, by decide, by decide, Or.inl ⟨_, _, hI_field l hl9 G a o n sv S p0 p1 hM, ⟨_, _, _, _, [], rfl, (List.append_nil _).symm, (Or.inl ⟨hM, rfl, rfl, rfl⟩), fun z => absurd z (by decide)⟩⟩⟩

def H_isSameAs (S : SX) (n : Int64) (p0 : Int32) (p1 : Int32) (code : Int32) (n1 : Int64) (S1 : SX) : Prop := (¬ (vp_in p0 6) ∧ code = (1 : Int32) ∧ n1 = n ∧ S1 = S) ∨ ((vp_in p0 6) ∧ ¬ ((¬ p1 < (0 : Int32) ∧ p1 ≤ (4 : Int32))) ∧ code = (2 : Int32) ∧ n1 = n ∧ S1 = S) ∨ ((vp_in p0 6) ∧ ((¬ p1 < (0 : Int32) ∧ p1 ≤ (4 : Int32))) ∧ code = (0 : Int32) ∧ n1 = (fz9 (fX0_isSameAs S p0 p1)) ∧ S1 = S)
theorem k_isSameAs (l : Launch) (hl9 : l.stackTraces = false) (G : GT) (a : Nat → Nat) (o : Nat) (n : Int64) (sv : Value) (S : SX) (p0 : Int32) (p1 : Int32) : HOK l G yL_isSameAs cL_isSameAs 5 [(0, 18, 21, 25), (0, 18, 25, 19)] [.ref (a 0), .int p0, .int p1, .ref o] (wH G a o n sv S) 30 800 (fun r wd => ∃ (code : Int32) (n1 : Int64) (sv1 : Value) (S1 : SX), r = some (.int code) ∧ wd = wH G a o n1 sv1 S1 ∧ H_isSameAs S n p0 p1 code n1 S1) := by
  by_cases hM : (vp_in p0 6)
  · by_cases hR : ((¬ p1 < (0 : Int32) ∧ p1 ≤ (4 : Int32)))
    · exact ⟨10, 0, 0, by decide, by decide, by decide, Or.inl ⟨_, _, hG_isSameAs l hl9 G a o n sv S p0 p1 hM hR.1 hR.2, ⟨_, _, _, _, rfl, rfl, (Or.inr (Or.inr (⟨hM, hR, rfl, rfl, rfl⟩)))⟩⟩⟩
    · exact ⟨10, 1, 6, by decide, by decide, by decide, Or.inl ⟨_, _, hA_isSameAs l hl9 G a o n sv S p0 p1 hM hR, ⟨_, _, _, _, rfl, rfl, (Or.inr (Or.inl ⟨hM, hR, rfl, rfl, rfl⟩))⟩⟩⟩
  · exact ⟨10, 1, 6, by decide, by decide, by decide, Or.inl ⟨_, _, hI_isSameAs l hl9 G a o n sv S p0 p1 hM, ⟨_, _, _, _, rfl, rfl, (Or.inl ⟨hM, rfl, rfl, rfl⟩)⟩⟩⟩

def H_between (S : SX) (n : Int64) (p0 : Int32) (p1 : Int32) (p2 : Int32) (code : Int32) (n1 : Int64) (S1 : SX) : Prop := (¬ (vp_in p0 6 ∧ vp_in p1 6) ∧ code = (1 : Int32) ∧ n1 = n ∧ S1 = S) ∨ ((vp_in p0 6 ∧ vp_in p1 6) ∧ ¬ ((¬ p2 < (0 : Int32) ∧ p2 ≤ (13 : Int32))) ∧ code = (2 : Int32) ∧ n1 = n ∧ S1 = S) ∨ ((vp_in p0 6 ∧ vp_in p1 6) ∧ ((¬ p2 < (0 : Int32) ∧ p2 ≤ (13 : Int32))) ∧ code = (0 : Int32) ∧ n1 = n ∧ S1 = (gX0_between S p0 p1 p2))
theorem k_between (l : Launch) (hl9 : l.stackTraces = false) (G : GT) (a : Nat → Nat) (o : Nat) (n : Int64) (sv : Value) (S : SX) (p0 : Int32) (p1 : Int32) (p2 : Int32) : HOK l G yL_between cL_between 6 [(0, 12, 15, 25), (0, 12, 19, 19)] [.ref (a 0), .int p0, .int p1, .int p2, .ref o] (wH G a o n sv S) 30 800 (fun r wd => ∃ (code : Int32) (n1 : Int64) (sv1 : Value) (S1 : SX) (ws : va_W), r = some (.int code) ∧ wd = wH G a o n1 sv1 S1 ++ ws ∧ H_between S n p0 p1 p2 code n1 S1 ∧ (code = 0 → ∃ q : Nat, sv1 = .ref q ∧ TXO G q (oX0_between S p0 p1 p2) ws)) := by
  by_cases hM : (vp_in p0 6 ∧ vp_in p1 6)
  · by_cases hR : ((¬ p2 < (0 : Int32) ∧ p2 ≤ (13 : Int32)))
    · refine ⟨12, 30, 800, by decide, by decide, by decide, Or.inr (fun sz => ?_)⟩
      exact HU_imp (hT_between l G a o n sv S p0 p1 p2 hM.1 hM.2 hR.1 hR.2) (fun r wd z => by
        obtain ⟨rfl, q, ws, rfl, ht⟩ := z
        exact ⟨0, n, .ref q, _, ws, rfl, rfl, (Or.inr (Or.inr (⟨hM, hR, rfl, rfl, rfl⟩))), fun _ => ⟨q, rfl, ht⟩⟩) sz
    · exact ⟨10, 1, 6, by decide, by decide, by decide, Or.inl ⟨_, _, hA_between l hl9 G a o n sv S p0 p1 p2 hM.1 hM.2 hR, ⟨_, _, _, _, [], rfl, (List.append_nil _).symm, (Or.inr (Or.inl ⟨hM, hR, rfl, rfl, rfl⟩)), fun z => absurd z (by decide)⟩⟩⟩
  · exact ⟨10, 1, 6, by decide, by decide, by decide, Or.inl ⟨_, _, hI_between l hl9 G a o n sv S p0 p1 p2 hM, ⟨_, _, _, _, [], rfl, (List.append_nil _).symm, (Or.inl ⟨hM, rfl, rfl, rfl⟩), fun z => absurd z (by decide)⟩⟩⟩

def H_until (S : SX) (n : Int64) (p0 : Int32) (p1 : Int32) (p2 : Int32) (code : Int32) (n1 : Int64) (S1 : SX) : Prop := (¬ (vp_in p0 6 ∧ vp_in p1 6) ∧ code = (1 : Int32) ∧ n1 = n ∧ S1 = S) ∨ ((vp_in p0 6 ∧ vp_in p1 6) ∧ ¬ ((¬ p2 < (0 : Int32) ∧ p2 ≤ (13 : Int32))) ∧ code = (2 : Int32) ∧ n1 = n ∧ S1 = S) ∨ ((vp_in p0 6 ∧ vp_in p1 6) ∧ ((¬ p2 < (0 : Int32) ∧ p2 ≤ (13 : Int32))) ∧ code = (0 : Int32) ∧ n1 = n ∧ S1 = (gX0_until S p0 p1 p2))
theorem k_until (l : Launch) (hl9 : l.stackTraces = false) (G : GT) (a : Nat → Nat) (o : Nat) (n : Int64) (sv : Value) (S : SX) (p0 : Int32) (p1 : Int32) (p2 : Int32) : HOK l G yL_until cL_until 6 [(0, 12, 15, 25), (0, 12, 19, 19)] [.ref (a 0), .int p0, .int p1, .int p2, .ref o] (wH G a o n sv S) 30 800 (fun r wd => ∃ (code : Int32) (n1 : Int64) (sv1 : Value) (S1 : SX) (ws : va_W), r = some (.int code) ∧ wd = wH G a o n1 sv1 S1 ++ ws ∧ H_until S n p0 p1 p2 code n1 S1 ∧ (code = 0 → ∃ q : Nat, sv1 = .ref q ∧ TXO G q (oX0_until S p0 p1 p2) ws)) := by
  by_cases hM : (vp_in p0 6 ∧ vp_in p1 6)
  · by_cases hR : ((¬ p2 < (0 : Int32) ∧ p2 ≤ (13 : Int32)))
    · refine ⟨12, 30, 800, by decide, by decide, by decide, Or.inr (fun sz => ?_)⟩
      exact HU_imp (hT_until l G a o n sv S p0 p1 p2 hM.1 hM.2 hR.1 hR.2) (fun r wd z => by
        obtain ⟨rfl, q, ws, rfl, ht⟩ := z
        exact ⟨0, n, .ref q, _, ws, rfl, rfl, (Or.inr (Or.inr (⟨hM, hR, rfl, rfl, rfl⟩))), fun _ => ⟨q, rfl, ht⟩⟩) sz
    · exact ⟨10, 1, 6, by decide, by decide, by decide, Or.inl ⟨_, _, hA_until l hl9 G a o n sv S p0 p1 p2 hM.1 hM.2 hR, ⟨_, _, _, _, [], rfl, (List.append_nil _).symm, (Or.inr (Or.inl ⟨hM, hR, rfl, rfl, rfl⟩)), fun z => absurd z (by decide)⟩⟩⟩
  · exact ⟨10, 1, 6, by decide, by decide, by decide, Or.inl ⟨_, _, hI_until l hl9 G a o n sv S p0 p1 p2 hM, ⟨_, _, _, _, [], rfl, (List.append_nil _).symm, (Or.inl ⟨hM, rfl, rfl, rfl⟩), fun z => absurd z (by decide)⟩⟩⟩

def H_house (S : SX) (n : Int64) (p0 : Int32) (code : Int32) (n1 : Int64) (S1 : SX) : Prop := (¬ ((¬ p0 < (0 : Int32) ∧ p0 ≤ (5 : Int32))) ∧ code = (1 : Int32) ∧ n1 = n ∧ S1 = S) ∨ (((¬ p0 < (0 : Int32) ∧ p0 ≤ (5 : Int32))) ∧ code = (0 : Int32) ∧ n1 = ((fX0_house S p0).toInt64) ∧ S1 = S)
theorem k_house (l : Launch) (hl9 : l.stackTraces = false) (G : GT) (a : Nat → Nat) (o : Nat) (n : Int64) (sv : Value) (S : SX) (p0 : Int32) : HOK l G yL_house cL_house 4 [(0, 10, 13, 19)] [.ref (a 0), .int p0, .ref o] (wH G a o n sv S) 30 800 (fun r wd => ∃ (code : Int32) (n1 : Int64) (sv1 : Value) (S1 : SX), r = some (.int code) ∧ wd = wH G a o n1 sv1 S1 ∧ H_house S n p0 code n1 S1) := by
  by_cases hR : ((¬ p0 < (0 : Int32) ∧ p0 ≤ (5 : Int32)))
  · exact ⟨10, 0, 0, by decide, by decide, by decide, Or.inl ⟨_, _, hG_house l hl9 G a o n sv S p0 hR.1 hR.2, ⟨_, _, _, _, rfl, rfl, (Or.inr (⟨hR, rfl, rfl, rfl⟩))⟩⟩⟩
  · exact ⟨10, 1, 6, by decide, by decide, by decide, Or.inl ⟨_, _, hA_house l hl9 G a o n sv S p0 hR, ⟨_, _, _, _, rfl, rfl, (Or.inl ⟨hR, rfl, rfl, rfl⟩)⟩⟩⟩
