def fX2_pair (T : SM) (d : Int64) (k : Int32) (n : Int32) : Int64 := ((((d * (31 : Int64)) + ((fX2_order T k n).toInt64)) * (31 : Int64)) + ((fJ13_stringSize_95d88 (fX2_lineBetween T k n (5 : Int32))).toInt64))

set_option maxRecDepth 100000 in
set_option maxHeartbeats 4000000 in
theorem dg_pair {p : Program} {l : Launch} {e : Env} {s : State} {m : MethodId} {args : Array Value} {below : List Frame} {meth : Method} {c : Code} {Q : State → Prop} {G : GT} {A : Nat → Prop} {cells slots : Nat} {b : Nat → Nat} {T : SM} (C : CallFix p m c cX2_digest 10 s args BW RX2) (hE : EV G s s.heap) (hA : ∀ q : Nat, s.heap.size ≤ q → A q) (hAB : ∀ q : Nat, A q → gB G ≤ q) {d : Int64} {k : Int32} {n : Int32} (hk6 : vp_in k 6) (hn6 : vp_in n 6) (hT : MO T) (hcs : cells + 6 ≤ (rmK 10 120 4000).cells ∧ slots + 160 ≤ (rmK 10 120 4000).slots) (H : Heap) (locs : List Loc) (hP : va_P (gD G) vwCl (wM G b T) H) (hD : va_D A (wM G b T)) (hS : va_S A s.heap H locs) (ls : Array Slot) (hl : lv_has ls 10 [(3, .int k), (4, .int n), (1, .long d), (0, .ref (b 0))]) (kk : ∀ (H : Heap) (locs : List Loc), va_P (gD G) vwCl (wM G b T) H → va_D A (wM G b T) → va_S A s.heap H locs → ∀ ls : Array Slot, lv_has ls 10 [(3, .int k), (4, .int n), (1, .long (fX2_pair T d k n)), (0, .ref (b 0))] → W p l e (rmK 10 120 4000) s m args below meth c H locs (cells + 6) (slots + 160) Q (F0 m 242 ls [])) : W p l e (rmK 10 120 4000) s m args below meth c H locs (cells) (slots) Q (F0 m 210 ls []) := by
  have hx := C.1
  have hb := C.2.1
  have hml := C.2.2.1
  have hown := C.2.2.2.1
  have hw := C.2.2.2.2
  refine lv_lload_n hx hb dX2_digest_210 rfl (lv_at hl 2 rfl) ?_
  refine lv_ldc2 (v := (31 : Int64)) hx hb hown (hw _ bw1629) dX2_digest_211 ?_
  refine lv_lmul hx hb dX2_digest_214 ?_
  refine lv_aload_n hx hb dX2_digest_215 rfl (lv_at hl 3 rfl) ?_
  refine lv_iload_n hx hb dX2_digest_216 rfl (lv_at hl 0 rfl) ?_
  refine lv_iload hx hb dX2_digest_217 (lv_at hl 1 rfl) ?_
  refine rcVf (st1 := [.int (fX2_order T k n), .long (d * (31 : Int64))]) (as := [.int k, .int n]) (rest := [.long (d * (31 : Int64))]) (cl := RX2) C (c_X2_order l G b T k n hk6 hn6 hT) F_X2_order rfl bw1561 bw1563 (hw _ bw48) (hE.S hS hAB) hP (rv4 hE.K hP (q0 := 0) rfl) hl.1 dX2_digest_219 ⟨Nat.le_of_ble_eq_true rfl, Nat.le_of_ble_eq_true rfl⟩ rfl (Nat.le_of_ble_eq_true rfl) ⟨(by first | exact hcs.1 | exact Nat.le_trans (Nat.le_add_right _ _) hcs.1), (by first | exact hcs.2 | exact Nat.le_trans (Nat.le_add_right _ _) hcs.2)⟩ rfl ?_
  refine lv_i2l (v := ((fX2_order T k n).toInt64)) hx hb dX2_digest_222 (by first | rfl | decide) ?_
  refine lv_ladd hx hb dX2_digest_223 ?_
  refine lv_ldc2 (v := (31 : Int64)) hx hb hown (hw _ bw1629) dX2_digest_224 ?_
  refine lv_lmul hx hb dX2_digest_227 ?_
  refine lv_aload_n hx hb dX2_digest_228 rfl (lv_at hl 3 rfl) ?_
  refine lv_iload_n hx hb dX2_digest_229 rfl (lv_at hl 0 rfl) ?_
  refine lv_iload hx hb dX2_digest_230 (lv_at hl 1 rfl) ?_
  refine lv_iconst (v := (5 : Int32)) hx hb dX2_digest_232 qi_5 ?_
  refine weVf (wr := []) (wd := (wM G b T)) (as := [.int k, .int n, .int (5 : Int32)]) (rest := [.long (((d * (31 : Int64)) + ((fX2_order T k n).toInt64)) * (31 : Int64))]) (cl := RX2) C (u_between5 l G b T k n hk6 hn6 hT) F_X2_betweenNow rfl bw1577 bw1579 (hw _ bw49) (hE.S hS hAB) hP hD hS hA hAB (rv4 hE.K hP (q0 := 0) rfl) hl.1 dX2_digest_233 ⟨Nat.le_of_ble_eq_true rfl, Nat.le_of_ble_eq_true rfl⟩ rfl (Nat.le_of_ble_eq_true rfl) hcs (fun r9 wd9 H locs hp9 hP hD hS => ?_)
  obtain ⟨q9, u9, f9, k9, d9, rfl, rfl, hs9⟩ := hp9
  have hP : va_P (gD G) vwCl ((wM G b T) ++ [(q9, .inr (0, [.ref u9, .int 0, .int 0, .int 0])), (u9, .inl (gC G 2, (k9 + d9), .inl f9))]) H := hP
  have hD : va_D A ((wM G b T) ++ [(q9, .inr (0, [.ref u9, .int 0, .int 0, .int 0])), (u9, .inl (gC G 2, (k9 + d9), .inl f9))]) := hD
  refine W.eq (g2 := F0 m 236 ls [.ref q9, .long (((d * (31 : Int64)) + ((fX2_order T k n).toInt64)) * (31 : Int64))]) rfl ?_
  refine rcVf (st1 := [.int (nI (k9 + d9)), .long (((d * (31 : Int64)) + ((fX2_order T k n).toInt64)) * (31 : Int64))]) (as := []) (rest := [.long (((d * (31 : Int64)) + ((fX2_order T k n).toInt64)) * (31 : Int64))]) (cl := RJ0) C (s_length l G q9 u9 (k9 + d9) f9) F_J0_length_8abf5 rfl bw1630 bw1028 (hw _ bw1029) (hE.S hS hAB) (show va_P (gD G) vwCl [(q9, .inr (0, [.ref u9, .int 0, .int 0, .int 0])), (u9, .inl (gC G 2, (k9 + d9), .inl f9))] _ from hP.sub [5, 6] rfl) (rv0 hE.K hP (q0 := 5) rfl) hl.1 dX2_digest_236 ⟨Nat.le_of_ble_eq_true rfl, Nat.le_of_ble_eq_true rfl⟩ rfl (Nat.le_of_ble_eq_true rfl) ⟨(by first | exact hcs.1 | exact Nat.le_trans (Nat.le_add_right _ _) hcs.1), (by first | exact hcs.2 | exact Nat.le_trans (Nat.le_add_right _ _) hcs.2)⟩ rfl ?_
  refine k_foldi (y := (fJ13_stringSize_95d88 (fX2_lineBetween T k n (5 : Int32)))) hs9.2.2.2.2.2.symm ?_
  refine lv_i2l (v := ((fJ13_stringSize_95d88 (fX2_lineBetween T k n (5 : Int32))).toInt64)) hx hb dX2_digest_239 (by first | rfl | decide) ?_
  refine lv_ladd hx hb dX2_digest_240 ?_
  refine lv_lstore_n (lv' := [(1, .long ((((d * (31 : Int64)) + ((fX2_order T k n).toInt64)) * (31 : Int64)) + ((fJ13_stringSize_95d88 (fX2_lineBetween T k n (5 : Int32))).toInt64))), (3, .int k), (4, .int n), (0, .ref (b 0))]) hx hb dX2_digest_241 rfl hl (Nat.le_of_ble_eq_true rfl) rfl (fun ls hl => ?_)
  have hl : lv_has ls 10 [(1, .long (fX2_pair T d k n)), (3, .int k), (4, .int n), (0, .ref (b 0))] := hl
  exact kk _ _ (hP.sub [0, 1, 2, 3, 4] rfl) (hD.sub [0, 1, 2, 3, 4] (by decide) rfl) hS ls (lv_sub hl [1, 2, 0, 3] rfl)

def fX2_hs (T : SM) (d : Int64) (k : Int32) : Int64 := ((d * (31 : Int64)) + ((fX2_houseNow T k).toInt64))

set_option maxRecDepth 100000 in
set_option maxHeartbeats 4000000 in
theorem dg_house {p : Program} {l : Launch} {e : Env} {s : State} {m : MethodId} {args : Array Value} {below : List Frame} {meth : Method} {c : Code} {Q : State → Prop} {G : GT} {A : Nat → Prop} {cells slots : Nat} {b : Nat → Nat} {T : SM} (C : CallFix p m c cX2_digest 10 s args BW RX2) (hE : EV G s s.heap) (hA : ∀ q : Nat, s.heap.size ≤ q → A q) (hAB : ∀ q : Nat, A q → gB G ≤ q) {d : Int64} {k : Int32} (hT : MO T) (hcs : cells + 0 ≤ (rmK 10 120 4000).cells ∧ slots + 0 ≤ (rmK 10 120 4000).slots) (H : Heap) (locs : List Loc) (hP : va_P (gD G) vwCl (wM G b T) H) (hD : va_D A (wM G b T)) (hS : va_S A s.heap H locs) (ls : Array Slot) (hl : lv_has ls 10 [(3, .int k), (1, .long d), (0, .ref (b 0))]) (kk : ∀ (H : Heap) (locs : List Loc), va_P (gD G) vwCl (wM G b T) H → va_D A (wM G b T) → va_S A s.heap H locs → ∀ ls : Array Slot, lv_has ls 10 [(3, .int k), (1, .long (fX2_hs T d k)), (0, .ref (b 0))] → W p l e (rmK 10 120 4000) s m args below meth c H locs (cells) (slots) Q (F0 m 275 ls [])) : W p l e (rmK 10 120 4000) s m args below meth c H locs (cells) (slots) Q (F0 m 262 ls []) := by
  have hx := C.1
  have hb := C.2.1
  have hml := C.2.2.1
  have hown := C.2.2.2.1
  have hw := C.2.2.2.2
  refine lv_lload_n hx hb dX2_digest_262 rfl (lv_at hl 1 rfl) ?_
  refine lv_ldc2 (v := (31 : Int64)) hx hb hown (hw _ bw1629) dX2_digest_263 ?_
  refine lv_lmul hx hb dX2_digest_266 ?_
  refine lv_aload_n hx hb dX2_digest_267 rfl (lv_at hl 2 rfl) ?_
  refine lv_iload_n hx hb dX2_digest_268 rfl (lv_at hl 0 rfl) ?_
  refine rcVf (st1 := [.int (fX2_houseNow T k), .long (d * (31 : Int64))]) (as := [.int k]) (rest := [.long (d * (31 : Int64))]) (cl := RX2) C (c_X2_houseNow l G b T k hT) F_X2_houseNow rfl bw1604 bw1606 (hw _ bw53) (hE.S hS hAB) hP (rv4 hE.K hP (q0 := 0) rfl) hl.1 dX2_digest_269 ⟨Nat.le_of_ble_eq_true rfl, Nat.le_of_ble_eq_true rfl⟩ rfl (Nat.le_of_ble_eq_true rfl) ⟨(by first | exact hcs.1 | exact Nat.le_trans (Nat.le_add_right _ _) hcs.1), (by first | exact hcs.2 | exact Nat.le_trans (Nat.le_add_right _ _) hcs.2)⟩ rfl ?_
  refine lv_i2l (v := ((fX2_houseNow T k).toInt64)) hx hb dX2_digest_272 (by first | rfl | decide) ?_
  refine lv_ladd hx hb dX2_digest_273 ?_
  refine lv_lstore_n (lv' := [(1, .long ((d * (31 : Int64)) + ((fX2_houseNow T k).toInt64))), (3, .int k), (0, .ref (b 0))]) hx hb dX2_digest_274 rfl hl (Nat.le_of_ble_eq_true rfl) rfl (fun ls hl => ?_)
  have hl : lv_has ls 10 [(1, .long (fX2_hs T d k)), (3, .int k), (0, .ref (b 0))] := hl
  exact kk _ _ hP hD hS ls (lv_sub hl [1, 0, 2] rfl)

def gX2_digest (T : SM) : Int64 × SM := ((((fX2_hs ((0 : Int32), (my T), (mm T), (md T), (mt T), (T.2.2.2.2.2)) (fX2_hs ((0 : Int32), (my T), (mm T), (md T), (mt T), (T.2.2.2.2.2)) (fX2_hs ((0 : Int32), (my T), (mm T), (md T), (mt T), (T.2.2.2.2.2)) (fX2_hs ((0 : Int32), (my T), (mm T), (md T), (mt T), (T.2.2.2.2.2)) (fX2_hs ((0 : Int32), (my T), (mm T), (md T), (mt T), (T.2.2.2.2.2)) (fX2_hs ((0 : Int32), (my T), (mm T), (md T), (mt T), (T.2.2.2.2.2)) (fX2_pair ((0 : Int32), (my T), (mm T), (md T), (mt T), (T.2.2.2.2.2)) (fX2_pair ((0 : Int32), (my T), (mm T), (md T), (mt T), (T.2.2.2.2.2)) (fX2_pair ((0 : Int32), (my T), (mm T), (md T), (mt T), (T.2.2.2.2.2)) (fX2_pair ((0 : Int32), (my T), (mm T), (md T), (mt T), (T.2.2.2.2.2)) (fX2_pair ((0 : Int32), (my T), (mm T), (md T), (mt T), (T.2.2.2.2.2)) (fX2_pair ((0 : Int32), (my T), (mm T), (md T), (mt T), (T.2.2.2.2.2)) (fX2_pair ((0 : Int32), (my T), (mm T), (md T), (mt T), (T.2.2.2.2.2)) (fX2_pair ((0 : Int32), (my T), (mm T), (md T), (mt T), (T.2.2.2.2.2)) (fX2_pair ((0 : Int32), (my T), (mm T), (md T), (mt T), (T.2.2.2.2.2)) (fX2_pair ((0 : Int32), (my T), (mm T), (md T), (mt T), (T.2.2.2.2.2)) (fX2_pair ((0 : Int32), (my T), (mm T), (md T), (mt T), (T.2.2.2.2.2)) (fX2_pair ((0 : Int32), (my T), (mm T), (md T), (mt T), (T.2.2.2.2.2)) (fX2_pair ((0 : Int32), (my T), (mm T), (md T), (mt T), (T.2.2.2.2.2)) (fX2_pair ((0 : Int32), (my T), (mm T), (md T), (mt T), (T.2.2.2.2.2)) (fX2_pair ((0 : Int32), (my T), (mm T), (md T), (mt T), (T.2.2.2.2.2)) (fX2_mom ((0 : Int32), (my T), (mm T), (md T), (mt T), (T.2.2.2.2.2)) (fX2_mom ((0 : Int32), (my T), (mm T), (md T), (mt T), (T.2.2.2.2.2)) (fX2_mom ((0 : Int32), (my T), (mm T), (md T), (mt T), (T.2.2.2.2.2)) (fX2_mom ((0 : Int32), (my T), (mm T), (md T), (mt T), (T.2.2.2.2.2)) (fX2_mom ((0 : Int32), (my T), (mm T), (md T), (mt T), (T.2.2.2.2.2)) (fX2_mom ((0 : Int32), (my T), (mm T), (md T), (mt T), (T.2.2.2.2.2)) (7643 : Int64) (0 : Int32)) (1 : Int32)) (2 : Int32)) (3 : Int32)) (4 : Int32)) (5 : Int32)) (0 : Int32) (1 : Int32)) (0 : Int32) (2 : Int32)) (0 : Int32) (3 : Int32)) (0 : Int32) (4 : Int32)) (0 : Int32) (5 : Int32)) (1 : Int32) (2 : Int32)) (1 : Int32) (3 : Int32)) (1 : Int32) (4 : Int32)) (1 : Int32) (5 : Int32)) (2 : Int32) (3 : Int32)) (2 : Int32) (4 : Int32)) (2 : Int32) (5 : Int32)) (3 : Int32) (4 : Int32)) (3 : Int32) (5 : Int32)) (4 : Int32) (5 : Int32)) (0 : Int32)) (1 : Int32)) (2 : Int32)) (3 : Int32)) (4 : Int32)) (5 : Int32)) * (31 : Int64)) + (1 : Int64)), ((0 : Int32), (my T), (mm T), (md T), (mt T), (T.2.2.2.2.2)))

