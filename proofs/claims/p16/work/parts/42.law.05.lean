set_option maxRecDepth 100000 in
set_option maxHeartbeats 4000000 in
theorem case_knock {p : Program} {l : Launch} {e : Env} {s : State} {m : MethodId} {below : List Frame} {meth : Method} {c : Code} {Q : State → Prop} {G : GT} {b9 L9 : Nat} {xs : Nat → Int32} {a bb : Nat → Nat} {o : Nat} (Z : LW p l s m meth c G b9 L9 xs) {i cells slots : Nat} (hi : i + 6 ≤ L9) (hf : cells + 200 ≤ room_1.cells ∧ slots + 5000 ≤ room_1.slots) {n : Int64} {sv : Value} {S : SX} {T : SM} (hR : Rel S T) {H : Heap} {locs : List Loc} {ls : Array Slot} (hP : va_P (gD G) vwCl (wM G bb T ++ wH G a o n sv S) H) (hD : va_D (fun q : Nat => s.heap.size ≤ q) (wM G bb T ++ wH G a o n sv S)) (hS : va_S (fun q : Nat => s.heap.size ≤ q) s.heap H locs) (hl : lv_has ls 7 [(0, .ref b9), (1, .ref (a 0)), (2, .ref (bb 0)), (3, .ref o), (4, .int (nI i))]) (kk : ∀ (n : Int64) (sv : Value) (S : SX) (T : SM) (H : Heap) (locs : List Loc) (ls : Array Slot), Rel S T → va_P (gD G) vwCl (wM G bb T ++ wH G a o n sv S) H → va_D (fun q : Nat => s.heap.size ≤ q) (wM G bb T ++ wH G a o n sv S) → va_S (fun q : Nat => s.heap.size ≤ q) s.heap H locs → lv_has ls 7 [(0, .ref b9), (1, .ref (a 0)), (2, .ref (bb 0)), (3, .ref o), (4, .int (nI i))] → W p l e room_1 s m #[Value.ref b9] below meth c H locs (cells + 200) (slots + 5000) Q (F0 m 2412 ls [])) : W p l e room_1 s m #[Value.ref b9] below meth c H locs (cells) (slots) Q (F0 m 2373 ls []) := by
  obtain ⟨C, hE, hN, hX, hbl, hl9, hL9, hA, hAB, hbA⟩ := Z
  have hx := C.1
  have hb := C.2.1
  have hml := C.2.2.1
  have hown := C.2.2.2.1
  have hw := C.2.2.2.2
  obtain ⟨hf0, hf1, hf2⟩ := lw_hf hf
  have hf3 := hf2
  refine lv_aload_n hx hb dL_law_2373 rfl (lv_at hl 1 rfl) ?_
  have hP8 : va_P (gD G) vwCl ((wM G bb T ++ [(o, .inr (3, [.long n, sv]))]) ++ wX G a S) _ := hP
  have hD8 : va_D (fun q : Nat => s.heap.size ≤ q) ((wM G bb T ++ [(o, .inr (3, [.long n, sv]))]) ++ wX G a S) := hD
  refine lwWR (MC := 30) (MS := 800) (st1 := [.int ((gX0_knock S).1)]) (wr := (wM G bb T ++ [(o, .inr (3, [.long n, sv]))])) (wd := (wX G a S)) (as := []) (rest := []) (cl := RX0) (Nat.le_of_ble_eq_true rfl) (Nat.le_of_ble_eq_true rfl) C (c_X0_knock l G a S) F_X0_knock rfl bw133 bw134 bw135 (hE.S hS hAB) hP8 hD8 hS hA hAB (rv2 hE.K (P_tl hP8) (q0 := 0) rfl) hl.1 dL_law_2374 ⟨(Nat.le_of_ble_eq_true rfl), (Nat.le_of_ble_eq_true rfl)⟩ rfl (Nat.le_of_ble_eq_true rfl) hf1 rfl (fun H locs hP hD hS => ?_)
  have hP : va_P (gD G) vwCl (wH G a o n sv (gX0_knock S).2 ++ wM G bb T) H := (show va_P (gD G) vwCl (wH G a o n sv (gX0_knock S).2 ++ wM G bb T) H from hP.sub [11, 0, 1, 2, 3, 4, 5, 6, 7, 8, 9, 10] rfl)
  have hD : va_D (fun q : Nat => s.heap.size ≤ q) (wH G a o n sv (gX0_knock S).2 ++ wM G bb T) := hD.sub [11, 0, 1, 2, 3, 4, 5, 6, 7, 8, 9, 10] (by decide) rfl
  refine lv_pop hx hb dL_law_2377 rfl ?_
  refine lv_aload_n hx hb dL_law_2378 rfl (lv_at hl 2 rfl) ?_
  refine lwWR (MC := 170) (MS := 4200) (st1 := [.int ((gX2_knock T).1)]) (wr := (wH G a o n sv (gX0_knock S).2)) (wd := (wM G bb T)) (as := []) (rest := []) (cl := RX2) (Nat.le_of_ble_eq_true rfl) (Nat.le_of_ble_eq_true rfl) C (c_X2_knock l G bb T (Rel.mo hR)) F_X2_knock rfl bw1616 bw1617 bw1618 (hE.S hS hAB) hP hD hS hA hAB (rv4 hE.K (P_tl (wr := (wH G a o n sv (gX0_knock S).2)) hP) (q0 := 0) rfl) hl.1 dL_law_2379 ⟨(Nat.le_of_ble_eq_true rfl), (Nat.le_of_ble_eq_true rfl)⟩ rfl (Nat.le_of_ble_eq_true rfl) hf2 rfl (fun H locs hP hD hS => ?_)
  refine lv_pop hx hb dL_law_2382 rfl ?_
  refine lv_goto (tgt := 2412) hx hb dL_law_2383 (by decide) ?_
  refine W.widen (k := cells + 200) (n := slots + 5000) (by first | exact Nat.le_of_eq (Nat.add_assoc _ _ _) | omega) (by first | exact Nat.le_of_eq (Nat.add_assoc _ _ _) | omega) ?_
  exact kk n sv ((gX0_knock S).2) ((gX2_knock T).2) _ _ ls (rel_knock hR) hP hD hS (lv_sub hl [0, 1, 2, 3, 4] rfl)

set_option maxRecDepth 100000 in
set_option maxHeartbeats 4000000 in
theorem case_isSound {p : Program} {l : Launch} {e : Env} {s : State} {m : MethodId} {below : List Frame} {meth : Method} {c : Code} {Q : State → Prop} {G : GT} {b9 L9 : Nat} {xs : Nat → Int32} {a bb : Nat → Nat} {o : Nat} (Z : LW p l s m meth c G b9 L9 xs) {i cells slots : Nat} (hi : i + 6 ≤ L9) (hf : cells + 200 ≤ room_1.cells ∧ slots + 5000 ≤ room_1.slots) {n : Int64} {sv : Value} {S : SX} {T : SM} (hR : Rel S T) {H : Heap} {locs : List Loc} {ls : Array Slot} (hP : va_P (gD G) vwCl (wM G bb T ++ wH G a o n sv S) H) (hD : va_D (fun q : Nat => s.heap.size ≤ q) (wM G bb T ++ wH G a o n sv S)) (hS : va_S (fun q : Nat => s.heap.size ≤ q) s.heap H locs) (hl : lv_has ls 7 [(0, .ref b9), (1, .ref (a 0)), (2, .ref (bb 0)), (3, .ref o), (4, .int (nI i))]) (kk : ∀ (n : Int64) (sv : Value) (S : SX) (T : SM) (H : Heap) (locs : List Loc) (ls : Array Slot), Rel S T → va_P (gD G) vwCl (wM G bb T ++ wH G a o n sv S) H → va_D (fun q : Nat => s.heap.size ≤ q) (wM G bb T ++ wH G a o n sv S) → va_S (fun q : Nat => s.heap.size ≤ q) s.heap H locs → lv_has ls 7 [(0, .ref b9), (1, .ref (a 0)), (2, .ref (bb 0)), (3, .ref o), (4, .int (nI i))] → W p l e room_1 s m #[Value.ref b9] below meth c H locs (cells + 200) (slots + 5000) Q (F0 m 2412 ls [])) : W p l e room_1 s m #[Value.ref b9] below meth c H locs (cells) (slots) Q (F0 m 2386 ls []) := by
  obtain ⟨C, hE, hN, hX, hbl, hl9, hL9, hA, hAB, hbA⟩ := Z
  have hx := C.1
  have hb := C.2.1
  have hml := C.2.2.1
  have hown := C.2.2.2.1
  have hw := C.2.2.2.2
  obtain ⟨hf0, hf1, hf2⟩ := lw_hf hf
  have hf3 := hf2
  refine lv_aload_n hx hb dL_law_2386 rfl (lv_at hl 1 rfl) ?_
  refine rcVf (st1 := [.int (fX0_isSound S)]) (as := []) (rest := []) (cl := RX0) C (c_X0_isSound l G a S) F_X0_isSound rfl bw137 bw138 (hw _ bw139) (hE.S hS hAB) (P_tail (P_tl hP)) (rv2 hE.K (P_tail (P_tl hP)) (q0 := 0) rfl) hl.1 dL_law_2387 ⟨Nat.le_of_ble_eq_true rfl, Nat.le_of_ble_eq_true rfl⟩ rfl (Nat.le_of_ble_eq_true rfl) hf0 rfl ?_
  have hP := P_swap hP
  have hD := D_swap hD
  refine W.widen (k := cells + 30) (n := slots + 800) (by first | exact Nat.le_add_right _ _ | omega) (by first | exact Nat.le_add_right _ _ | omega) ?_
  refine lv_pop hx hb dL_law_2390 rfl ?_
  refine lv_aload_n hx hb dL_law_2391 rfl (lv_at hl 2 rfl) ?_
  refine lwWR (MC := 170) (MS := 4200) (st1 := [.int ((gX2_isSound T).1)]) (wr := (wH G a o n sv S)) (wd := (wM G bb T)) (as := []) (rest := []) (cl := RX2) (Nat.le_of_ble_eq_true rfl) (Nat.le_of_ble_eq_true rfl) C (c_X2_isSound l G bb T (Rel.mo hR)) F_X2_isSound rfl bw1620 bw1621 bw1622 (hE.S hS hAB) hP hD hS hA hAB (rv4 hE.K (P_tl (wr := (wH G a o n sv S)) hP) (q0 := 0) rfl) hl.1 dL_law_2392 ⟨(Nat.le_of_ble_eq_true rfl), (Nat.le_of_ble_eq_true rfl)⟩ rfl (Nat.le_of_ble_eq_true rfl) hf2 rfl (fun H locs hP hD hS => ?_)
  refine lv_pop hx hb dL_law_2395 rfl ?_
  refine lv_goto (tgt := 2412) hx hb dL_law_2396 (by decide) ?_
  refine W.widen (k := cells + 200) (n := slots + 5000) (by first | exact Nat.le_of_eq (Nat.add_assoc _ _ _) | omega) (by first | exact Nat.le_of_eq (Nat.add_assoc _ _ _) | omega) ?_
  exact kk n sv S ((gX2_isSound T).2) _ _ ls (rel_isSound hR) hP hD hS (lv_sub hl [0, 1, 2, 3, 4] rfl)

set_option maxRecDepth 100000 in
set_option maxHeartbeats 4000000 in
theorem case_digest {p : Program} {l : Launch} {e : Env} {s : State} {m : MethodId} {below : List Frame} {meth : Method} {c : Code} {Q : State → Prop} {G : GT} {b9 L9 : Nat} {xs : Nat → Int32} {a bb : Nat → Nat} {o : Nat} (Z : LW p l s m meth c G b9 L9 xs) {i cells slots : Nat} (hi : i + 6 ≤ L9) (hf : cells + 200 ≤ room_1.cells ∧ slots + 5000 ≤ room_1.slots) {n : Int64} {sv : Value} {S : SX} {T : SM} (hR : Rel S T) {H : Heap} {locs : List Loc} {ls : Array Slot} (hP : va_P (gD G) vwCl (wM G bb T ++ wH G a o n sv S) H) (hD : va_D (fun q : Nat => s.heap.size ≤ q) (wM G bb T ++ wH G a o n sv S)) (hS : va_S (fun q : Nat => s.heap.size ≤ q) s.heap H locs) (hl : lv_has ls 7 [(0, .ref b9), (1, .ref (a 0)), (2, .ref (bb 0)), (3, .ref o), (4, .int (nI i))]) (kk : ∀ (n : Int64) (sv : Value) (S : SX) (T : SM) (H : Heap) (locs : List Loc) (ls : Array Slot), Rel S T → va_P (gD G) vwCl (wM G bb T ++ wH G a o n sv S) H → va_D (fun q : Nat => s.heap.size ≤ q) (wM G bb T ++ wH G a o n sv S) → va_S (fun q : Nat => s.heap.size ≤ q) s.heap H locs → lv_has ls 7 [(0, .ref b9), (1, .ref (a 0)), (2, .ref (bb 0)), (3, .ref o), (4, .int (nI i))] → W p l e room_1 s m #[Value.ref b9] below meth c H locs (cells + 200) (slots + 5000) Q (F0 m 2412 ls [])) : W p l e room_1 s m #[Value.ref b9] below meth c H locs (cells) (slots) Q (F0 m 2399 ls []) := by
  obtain ⟨C, hE, hN, hX, hbl, hl9, hL9, hA, hAB, hbA⟩ := Z
  have hx := C.1
  have hb := C.2.1
  have hml := C.2.2.1
  have hown := C.2.2.2.1
  have hw := C.2.2.2.2
  obtain ⟨hf0, hf1, hf2⟩ := lw_hf hf
  have hf3 := hf2
  refine lv_aload_n hx hb dL_law_2399 rfl (lv_at hl 1 rfl) ?_
  refine rcVf (st1 := [.long (fX0_digest S)]) (as := []) (rest := []) (cl := RX0) C (c_X0_digest l G a S) F_X0_digest rfl bw249 bw250 (hw _ bw251) (hE.S hS hAB) (P_tail (P_tl hP)) (rv2 hE.K (P_tail (P_tl hP)) (q0 := 0) rfl) hl.1 dL_law_2400 ⟨Nat.le_of_ble_eq_true rfl, Nat.le_of_ble_eq_true rfl⟩ rfl (Nat.le_of_ble_eq_true rfl) hf0 rfl ?_
  have hP := P_swap hP
  have hD := D_swap hD
  refine W.widen (k := cells + 30) (n := slots + 800) (by first | exact Nat.le_add_right _ _ | omega) (by first | exact Nat.le_add_right _ _ | omega) ?_
  refine lv_pop2_2 hx hb dL_law_2403 rfl ?_
  refine lv_aload_n hx hb dL_law_2404 rfl (lv_at hl 2 rfl) ?_
  refine lwWE (MC := 170) (MS := 4200) (wr := (wH G a o n sv S)) (wd := (wM G bb T)) (as := []) (rest := []) (cl := RX2) (Nat.le_of_ble_eq_true rfl) (Nat.le_of_ble_eq_true rfl) C (u_digest l G bb T (Rel.mo hR)) F_X2_digest rfl bw1624 bw1625 bw1626 (hE.S hS hAB) hP hD hS hA hAB (rv4 hE.K (P_tl (wr := (wH G a o n sv S)) hP) (q0 := 0) rfl) hl.1 dL_law_2405 ⟨(Nat.le_of_ble_eq_true rfl), (Nat.le_of_ble_eq_true rfl)⟩ rfl (Nat.le_of_ble_eq_true rfl) hf2 (fun r9 wd9 H locs hp9 hP hD hS => ?_)
  obtain ⟨rfl, rfl⟩ := hp9
  refine W.eq (g2 := F0 m 2408 ls [.long ((gX2_digest T).1)]) rfl ?_
  refine lv_pop2_2 hx hb dL_law_2408 rfl ?_
  refine lv_goto (tgt := 2412) hx hb dL_law_2409 (by decide) ?_
  refine W.widen (k := cells + 200) (n := slots + 5000) (by first | exact Nat.le_of_eq (Nat.add_assoc _ _ _) | omega) (by first | exact Nat.le_of_eq (Nat.add_assoc _ _ _) | omega) ?_
  exact kk n sv S ((gX2_digest T).2) _ _ ls (rel_digest hR) hP hD hS (lv_sub hl [0, 1, 2, 3, 4] rfl)
