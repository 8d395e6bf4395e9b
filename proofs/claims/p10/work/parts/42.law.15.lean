set_option maxRecDepth 100000 in
set_option maxHeartbeats 4000000 in
theorem case_plusNanos {p : Program} {l : Launch} {e : Env} {s : State} {m : MethodId} {below : List Frame} {meth : Method} {c : Code} {Q : State → Prop} {G : GT} {b9 L9 : Nat} {xs : Nat → Int32} {a bb : Nat → Nat} {o : Nat} (Z : LW p l s m meth c G b9 L9 xs) {i cells slots : Nat} (hi : i + 6 ≤ L9) (hf : cells + 200 ≤ room_1.cells ∧ slots + 5000 ≤ room_1.slots) {n : Int64} {sv : Value} {S : SX} {T : SM} (hR : Rel S T) {H : Heap} {locs : List Loc} {ls : Array Slot} (hP : va_P (gD G) vwCl (wM G bb T ++ wH G a o n sv S) H) (hD : va_D (fun q : Nat => s.heap.size ≤ q) (wM G bb T ++ wH G a o n sv S)) (hS : va_S (fun q : Nat => s.heap.size ≤ q) s.heap H locs) (hl : lv_has ls 7 [(0, .ref b9), (1, .ref (a 0)), (2, .ref (bb 0)), (3, .ref o), (4, .int (nI i))]) (kk : ∀ (n : Int64) (sv : Value) (S : SX) (T : SM) (H : Heap) (locs : List Loc) (ls : Array Slot), Rel S T → va_P (gD G) vwCl (wM G bb T ++ wH G a o n sv S) H → va_D (fun q : Nat => s.heap.size ≤ q) (wM G bb T ++ wH G a o n sv S) → va_S (fun q : Nat => s.heap.size ≤ q) s.heap H locs → lv_has ls 7 [(0, .ref b9), (1, .ref (a 0)), (2, .ref (bb 0)), (3, .ref o), (4, .int (nI i))] → W p l e room_1 s m #[Value.ref b9] below meth c H locs (cells + 200) (slots + 5000) Q (F0 m 2412 ls [])) : W p l e room_1 s m #[Value.ref b9] below meth c H locs (cells) (slots) Q (F0 m 1533 ls []) := by
  obtain ⟨C, hE, hN, hX, hbl, hl9, hL9, hA, hAB, hbA⟩ := Z
  have hx := C.1
  have hb := C.2.1
  have hml := C.2.2.1
  have hown := C.2.2.2.1
  have hw := C.2.2.2.2
  have hf0 : cells ≤ room_1.cells ∧ slots ≤ room_1.slots := ⟨by omega, by omega⟩
  have hf1 : cells + 30 ≤ room_1.cells ∧ slots + 800 ≤ room_1.slots := ⟨by omega, by omega⟩
  have hf2 : cells + 30 + 170 ≤ room_1.cells ∧ slots + 800 + 4200 ≤ room_1.slots := ⟨by omega, by omega⟩
  have hf3 : cells + 30 + 170 ≤ room_1.cells ∧ slots + 800 + 4200 ≤ room_1.slots := ⟨by omega, by omega⟩
  obtain ⟨p0, hp0⟩ : ∃ y : Int32, xs (nI (i + 1)).toNatClampNeg = y := ⟨_, rfl⟩
  obtain ⟨p1, hp1⟩ : ∃ y : Int32, xs (nI (i + 2)).toNatClampNeg = y := ⟨_, rfl⟩
  obtain ⟨p2, hp2⟩ : ∃ y : Int32, xs (nI (i + 3)).toNatClampNeg = y := ⟨_, rfl⟩
  refine lv_aload_n hx hb dL_law_1533 rfl (lv_at hl 1 rfl) ?_
  refine lv_aload_n hx hb dL_law_1534 rfl (lv_at hl 0 rfl) ?_
  refine lv_iload hx hb dL_law_1535 (lv_at hl 4 rfl) ?_
  refine lv_iconst (v := (1 : Int32)) hx hb dL_law_1537 (by decide) ?_
  refine lv_iadd hx hb dL_law_1538 ?_
  refine k_foldi (y := (nI (i + 1))) (nI_add i 1) ?_
  refine va_sld hx hb hX hbl hbA hS (vp_in_nI (by omega) (by omega)) dL_law_1539 ?_
  refine k_foldi (y := p0) hp0 ?_
  refine lv_aload_n hx hb dL_law_1540 rfl (lv_at hl 0 rfl) ?_
  refine lv_iload hx hb dL_law_1541 (lv_at hl 4 rfl) ?_
  refine lv_iconst (v := (2 : Int32)) hx hb dL_law_1543 (by decide) ?_
  refine lv_iadd hx hb dL_law_1544 ?_
  refine k_foldi (y := (nI (i + 2))) (nI_add i 2) ?_
  refine va_sld hx hb hX hbl hbA hS (vp_in_nI (by omega) (by omega)) dL_law_1545 ?_
  refine k_foldi (y := p1) hp1 ?_
  refine lv_aload_n hx hb dL_law_1546 rfl (lv_at hl 0 rfl) ?_
  refine lv_iload hx hb dL_law_1547 (lv_at hl 4 rfl) ?_
  refine lv_iconst (v := (3 : Int32)) hx hb dL_law_1549 (by decide) ?_
  refine lv_iadd hx hb dL_law_1550 ?_
  refine k_foldi (y := (nI (i + 3))) (nI_add i 3) ?_
  refine va_sld hx hb hX hbl hbA hS (vp_in_nI (by omega) (by omega)) dL_law_1551 ?_
  refine k_foldi (y := p2) hp2 ?_
  refine lv_aload_n hx hb dL_law_1552 rfl (lv_at hl 3 rfl) ?_
  refine lwHelp (n := 5) (wr := (wM G bb T)) (wd := (wH G a o n sv S)) (as := [.ref (a 0), .int p0, .int p1, .int p2, .ref o]) (rest := []) C (k_plusNanos l hl9 G a o n sv S p0 p1 p2) bw656 bw56 (by decide +kernel) rfl bw654 bw655 hN (hE.S hS hAB) hP hD hS hA hAB hl.1 dL_law_1553 ⟨(Nat.le_of_ble_eq_true rfl), (Nat.le_of_ble_eq_true rfl)⟩ rfl (Nat.le_of_ble_eq_true rfl) hf1 (fun r9 wd9 H locs hp9 hP hD hS => ?_)
  obtain ⟨c9, n9, sv9, S9, rfl, rfl, h9⟩ := hp9
  refine W.eq (g2 := F0 m 1556 ls [.int c9]) rfl ?_
  refine lv_istore (lv' := [(5, .int c9), (0, .ref b9), (1, .ref (a 0)), (2, .ref (bb 0)), (3, .ref o), (4, .int (nI i))]) hx hb dL_law_1556 hl (Nat.le_of_ble_eq_true rfl) rfl (fun ls hl => ?_)
  refine lv_aload_n hx hb dL_law_1558 rfl (lv_at hl 3 rfl) ?_
  refine lv_aload_n hx hb dL_law_1559 rfl (lv_at hl 1 rfl) ?_
  refine lv_iload hx hb dL_law_1560 (lv_at hl 5 rfl) ?_
  refine lv_iconst (v := (1 : Int32)) hx hb dL_law_1562 (by decide) ?_
  refine lv_iadd hx hb dL_law_1563 ?_
  refine k_foldi (y := (nI (i + 1))) (nI_add i 1) ?_
  refine va_sld hx hb hX hbl hbA hS (vp_in_nI (by omega) (by omega)) dL_law_1564 ?_
  refine k_foldi (y := p0) hp0 ?_
  refine lv_aload_n hx hb dL_law_1565 rfl (lv_at hl 1 rfl) ?_
  refine lv_iload hx hb dL_law_1566 (lv_at hl 5 rfl) ?_
  refine lv_iconst (v := (2 : Int32)) hx hb dL_law_1568 (by decide) ?_
  refine lv_iadd hx hb dL_law_1569 ?_
  refine k_foldi (y := (nI (i + 2))) (nI_add i 2) ?_
  refine va_sld hx hb hX hbl hbA hS (vp_in_nI (by omega) (by omega)) dL_law_1570 ?_
  refine k_foldi (y := p1) hp1 ?_
  refine lv_aload_n hx hb dL_law_1571 rfl (lv_at hl 1 rfl) ?_
  refine lv_iload hx hb dL_law_1572 (lv_at hl 5 rfl) ?_
  refine lv_iconst (v := (3 : Int32)) hx hb dL_law_1574 (by decide) ?_
  refine lv_iadd hx hb dL_law_1575 ?_
  refine k_foldi (y := (nI (i + 3))) (nI_add i 3) ?_
  refine va_sld hx hb hX hbl hbA hS (vp_in_nI (by omega) (by omega)) dL_law_1576 ?_
  refine k_foldi (y := p2) hp2 ?_
  refine lwWR (MC := 170) (MS := 4200) (st1 := [.int ((gX2_plusNanos T p0 p1 p2).1)]) (wr := (wH G a o n9 sv9 S9)) (wd := (wM G bb T)) (as := [.int p0, .int p1, .int p2]) (rest := []) (cl := RX2) (Nat.le_of_ble_eq_true rfl) (Nat.le_of_ble_eq_true rfl) C (c_X2_plusNanos l G bb T p0 p1 p2 (Rel.mo hR)) F_X2_plusNanos rfl bw1431 bw1432 bw1433 (hE.S hS hAB) hP hD hS hA hAB (rv4 hE.K (P_tl (wr := (wH G a o n9 sv9 S9)) hP) (q0 := 0) rfl) hl.1 dL_law_1577 ⟨(Nat.le_of_ble_eq_true rfl), (Nat.le_of_ble_eq_true rfl)⟩ rfl (Nat.le_of_ble_eq_true rfl) hf2 rfl (fun H locs hP hD hS => ?_)
  refine lv_istore (lv' := [(6, .int ((gX2_plusNanos T p0 p1 p2).1)), (5, .int c9), (0, .ref b9), (1, .ref (a 0)), (2, .ref (bb 0)), (3, .ref o), (4, .int (nI i))]) hx hb dL_law_1580 hl (Nat.le_of_ble_eq_true rfl) rfl (fun ls hl => ?_)
  refine lv_goto (tgt := 2412) hx hb dL_law_1582 (by decide) ?_
  refine W.widen (k := cells + 200) (n := slots + 5000) (by omega) (by omega) ?_
  exact kk n9 sv9 S9 ((gX2_plusNanos T p0 p1 p2).2) _ _ ls (rel_plusNanos hR h9) hP hD hS (lv_sub hl [2, 3, 4, 5, 6] rfl)

set_option maxRecDepth 100000 in
set_option maxHeartbeats 4000000 in
theorem case_minusNanos {p : Program} {l : Launch} {e : Env} {s : State} {m : MethodId} {below : List Frame} {meth : Method} {c : Code} {Q : State → Prop} {G : GT} {b9 L9 : Nat} {xs : Nat → Int32} {a bb : Nat → Nat} {o : Nat} (Z : LW p l s m meth c G b9 L9 xs) {i cells slots : Nat} (hi : i + 6 ≤ L9) (hf : cells + 200 ≤ room_1.cells ∧ slots + 5000 ≤ room_1.slots) {n : Int64} {sv : Value} {S : SX} {T : SM} (hR : Rel S T) {H : Heap} {locs : List Loc} {ls : Array Slot} (hP : va_P (gD G) vwCl (wM G bb T ++ wH G a o n sv S) H) (hD : va_D (fun q : Nat => s.heap.size ≤ q) (wM G bb T ++ wH G a o n sv S)) (hS : va_S (fun q : Nat => s.heap.size ≤ q) s.heap H locs) (hl : lv_has ls 7 [(0, .ref b9), (1, .ref (a 0)), (2, .ref (bb 0)), (3, .ref o), (4, .int (nI i))]) (kk : ∀ (n : Int64) (sv : Value) (S : SX) (T : SM) (H : Heap) (locs : List Loc) (ls : Array Slot), Rel S T → va_P (gD G) vwCl (wM G bb T ++ wH G a o n sv S) H → va_D (fun q : Nat => s.heap.size ≤ q) (wM G bb T ++ wH G a o n sv S) → va_S (fun q : Nat => s.heap.size ≤ q) s.heap H locs → lv_has ls 7 [(0, .ref b9), (1, .ref (a 0)), (2, .ref (bb 0)), (3, .ref o), (4, .int (nI i))] → W p l e room_1 s m #[Value.ref b9] below meth c H locs (cells + 200) (slots + 5000) Q (F0 m 2412 ls [])) : W p l e room_1 s m #[Value.ref b9] below meth c H locs (cells) (slots) Q (F0 m 1585 ls []) := by
  obtain ⟨C, hE, hN, hX, hbl, hl9, hL9, hA, hAB, hbA⟩ := Z
  have hx := C.1
  have hb := C.2.1
  have hml := C.2.2.1
  have hown := C.2.2.2.1
  have hw := C.2.2.2.2
  have hf0 : cells ≤ room_1.cells ∧ slots ≤ room_1.slots := ⟨by omega, by omega⟩
  have hf1 : cells + 30 ≤ room_1.cells ∧ slots + 800 ≤ room_1.slots := ⟨by omega, by omega⟩
  have hf2 : cells + 30 + 170 ≤ room_1.cells ∧ slots + 800 + 4200 ≤ room_1.slots := ⟨by omega, by omega⟩
  have hf3 : cells + 30 + 170 ≤ room_1.cells ∧ slots + 800 + 4200 ≤ room_1.slots := ⟨by omega, by omega⟩
  obtain ⟨p0, hp0⟩ : ∃ y : Int32, xs (nI (i + 1)).toNatClampNeg = y := ⟨_, rfl⟩
  obtain ⟨p1, hp1⟩ : ∃ y : Int32, xs (nI (i + 2)).toNatClampNeg = y := ⟨_, rfl⟩
  obtain ⟨p2, hp2⟩ : ∃ y : Int32, xs (nI (i + 3)).toNatClampNeg = y := ⟨_, rfl⟩
  refine lv_aload_n hx hb dL_law_1585 rfl (lv_at hl 1 rfl) ?_
  refine lv_aload_n hx hb dL_law_1586 rfl (lv_at hl 0 rfl) ?_
  refine lv_iload hx hb dL_law_1587 (lv_at hl 4 rfl) ?_
  refine lv_iconst (v := (1 : Int32)) hx hb dL_law_1589 (by decide) ?_
  refine lv_iadd hx hb dL_law_1590 ?_
  refine k_foldi (y := (nI (i + 1))) (nI_add i 1) ?_
  refine va_sld hx hb hX hbl hbA hS (vp_in_nI (by omega) (by omega)) dL_law_1591 ?_
  refine k_foldi (y := p0) hp0 ?_
  refine lv_aload_n hx hb dL_law_1592 rfl (lv_at hl 0 rfl) ?_
  refine lv_iload hx hb dL_law_1593 (lv_at hl 4 rfl) ?_
  refine lv_iconst (v := (2 : Int32)) hx hb dL_law_1595 (by decide) ?_
  refine lv_iadd hx hb dL_law_1596 ?_
  refine k_foldi (y := (nI (i + 2))) (nI_add i 2) ?_
  refine va_sld hx hb hX hbl hbA hS (vp_in_nI (by omega) (by omega)) dL_law_1597 ?_
  refine k_foldi (y := p1) hp1 ?_
  refine lv_aload_n hx hb dL_law_1598 rfl (lv_at hl 0 rfl) ?_
  refine lv_iload hx hb dL_law_1599 (lv_at hl 4 rfl) ?_
  refine lv_iconst (v := (3 : Int32)) hx hb dL_law_1601 (by decide) ?_
  refine lv_iadd hx hb dL_law_1602 ?_
  refine k_foldi (y := (nI (i + 3))) (nI_add i 3) ?_
  refine va_sld hx hb hX hbl hbA hS (vp_in_nI (by omega) (by omega)) dL_law_1603 ?_
  refine k_foldi (y := p2) hp2 ?_
  refine lv_aload_n hx hb dL_law_1604 rfl (lv_at hl 3 rfl) ?_
  refine lwHelp (n := 5) (wr := (wM G bb T)) (wd := (wH G a o n sv S)) (as := [.ref (a 0), .int p0, .int p1, .int p2, .ref o]) (rest := []) C (k_minusNanos l hl9 G a o n sv S p0 p1 p2) bw663 bw56 (by decide +kernel) rfl bw661 bw662 hN (hE.S hS hAB) hP hD hS hA hAB hl.1 dL_law_1605 ⟨(Nat.le_of_ble_eq_true rfl), (Nat.le_of_ble_eq_true rfl)⟩ rfl (Nat.le_of_ble_eq_true rfl) hf1 (fun r9 wd9 H locs hp9 hP hD hS => ?_)
  obtain ⟨c9, n9, sv9, S9, rfl, rfl, h9⟩ := hp9
  refine W.eq (g2 := F0 m 1608 ls [.int c9]) rfl ?_
  refine lv_istore (lv' := [(5, .int c9), (0, .ref b9), (1, .ref (a 0)), (2, .ref (bb 0)), (3, .ref o), (4, .int (nI i))]) hx hb dL_law_1608 hl (Nat.le_of_ble_eq_true rfl) rfl (fun ls hl => ?_)
  refine lv_aload_n hx hb dL_law_1610 rfl (lv_at hl 3 rfl) ?_
  refine lv_aload_n hx hb dL_law_1611 rfl (lv_at hl 1 rfl) ?_
  refine lv_iload hx hb dL_law_1612 (lv_at hl 5 rfl) ?_
  refine lv_iconst (v := (1 : Int32)) hx hb dL_law_1614 (by decide) ?_
  refine lv_iadd hx hb dL_law_1615 ?_
  refine k_foldi (y := (nI (i + 1))) (nI_add i 1) ?_
  refine va_sld hx hb hX hbl hbA hS (vp_in_nI (by omega) (by omega)) dL_law_1616 ?_
  refine k_foldi (y := p0) hp0 ?_
  refine lv_aload_n hx hb dL_law_1617 rfl (lv_at hl 1 rfl) ?_
  refine lv_iload hx hb dL_law_1618 (lv_at hl 5 rfl) ?_
  refine lv_iconst (v := (2 : Int32)) hx hb dL_law_1620 (by decide) ?_
  refine lv_iadd hx hb dL_law_1621 ?_
  refine k_foldi (y := (nI (i + 2))) (nI_add i 2) ?_
  refine va_sld hx hb hX hbl hbA hS (vp_in_nI (by omega) (by omega)) dL_law_1622 ?_
  refine k_foldi (y := p1) hp1 ?_
  refine lv_aload_n hx hb dL_law_1623 rfl (lv_at hl 1 rfl) ?_
  refine lv_iload hx hb dL_law_1624 (lv_at hl 5 rfl) ?_
  refine lv_iconst (v := (3 : Int32)) hx hb dL_law_1626 (by decide) ?_
  refine lv_iadd hx hb dL_law_1627 ?_
  refine k_foldi (y := (nI (i + 3))) (nI_add i 3) ?_
  refine va_sld hx hb hX hbl hbA hS (vp_in_nI (by omega) (by omega)) dL_law_1628 ?_
  refine k_foldi (y := p2) hp2 ?_
  refine lwWR (MC := 170) (MS := 4200) (st1 := [.int ((gX2_minusNanos T p0 p1 p2).1)]) (wr := (wH G a o n9 sv9 S9)) (wd := (wM G bb T)) (as := [.int p0, .int p1, .int p2]) (rest := []) (cl := RX2) (Nat.le_of_ble_eq_true rfl) (Nat.le_of_ble_eq_true rfl) C (c_X2_minusNanos l G bb T p0 p1 p2 (Rel.mo hR)) F_X2_minusNanos rfl bw1435 bw1436 bw1437 (hE.S hS hAB) hP hD hS hA hAB (rv4 hE.K (P_tl (wr := (wH G a o n9 sv9 S9)) hP) (q0 := 0) rfl) hl.1 dL_law_1629 ⟨(Nat.le_of_ble_eq_true rfl), (Nat.le_of_ble_eq_true rfl)⟩ rfl (Nat.le_of_ble_eq_true rfl) hf2 rfl (fun H locs hP hD hS => ?_)
  refine lv_istore (lv' := [(6, .int ((gX2_minusNanos T p0 p1 p2).1)), (5, .int c9), (0, .ref b9), (1, .ref (a 0)), (2, .ref (bb 0)), (3, .ref o), (4, .int (nI i))]) hx hb dL_law_1632 hl (Nat.le_of_ble_eq_true rfl) rfl (fun ls hl => ?_)
  refine lv_goto (tgt := 2412) hx hb dL_law_1634 (by decide) ?_
  refine W.widen (k := cells + 200) (n := slots + 5000) (by omega) (by omega) ?_
  exact kk n9 sv9 S9 ((gX2_minusNanos T p0 p1 p2).2) _ _ ls (rel_minusNanos hR h9) hP hD hS (lv_sub hl [2, 3, 4, 5, 6] rfl)

