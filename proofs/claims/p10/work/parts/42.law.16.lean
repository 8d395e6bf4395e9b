set_option maxRecDepth 100000 in
set_option maxHeartbeats 4000000 in
theorem case_plusUnits {p : Program} {l : Launch} {e : Env} {s : State} {m : MethodId} {below : List Frame} {meth : Method} {c : Code} {Q : State → Prop} {G : GT} {b9 L9 : Nat} {xs : Nat → Int32} {a bb : Nat → Nat} {o : Nat} (Z : LW p l s m meth c G b9 L9 xs) {i cells slots : Nat} (hi : i + 6 ≤ L9) (hf : cells + 200 ≤ room_1.cells ∧ slots + 5000 ≤ room_1.slots) {n : Int64} {sv : Value} {S : SX} {T : SM} (hR : Rel S T) {H : Heap} {locs : List Loc} {ls : Array Slot} (hP : va_P (gD G) vwCl (wM G bb T ++ wH G a o n sv S) H) (hD : va_D (fun q : Nat => s.heap.size ≤ q) (wM G bb T ++ wH G a o n sv S)) (hS : va_S (fun q : Nat => s.heap.size ≤ q) s.heap H locs) (hl : lv_has ls 7 [(0, .ref b9), (1, .ref (a 0)), (2, .ref (bb 0)), (3, .ref o), (4, .int (nI i))]) (kk : ∀ (n : Int64) (sv : Value) (S : SX) (T : SM) (H : Heap) (locs : List Loc) (ls : Array Slot), Rel S T → va_P (gD G) vwCl (wM G bb T ++ wH G a o n sv S) H → va_D (fun q : Nat => s.heap.size ≤ q) (wM G bb T ++ wH G a o n sv S) → va_S (fun q : Nat => s.heap.size ≤ q) s.heap H locs → lv_has ls 7 [(0, .ref b9), (1, .ref (a 0)), (2, .ref (bb 0)), (3, .ref o), (4, .int (nI i))] → W p l e room_1 s m #[Value.ref b9] below meth c H locs (cells + 200) (slots + 5000) Q (F0 m 2412 ls [])) : W p l e room_1 s m #[Value.ref b9] below meth c H locs (cells) (slots) Q (F0 m 1637 ls []) := by
  obtain ⟨C, hE, hN, hX, hbl, hl9, hL9, hA, hAB, hbA⟩ := Z
  have hx := C.1
  have hb := C.2.1
  have hml := C.2.2.1
  have hown := C.2.2.2.1
  have hw := C.2.2.2.2
  have hf0 : cells ≤ room_1.cells ∧ slots ≤ room_1.slots := ⟨by omega, by omega⟩
  have hf1 : cells + 30 ≤ room_1.cells ∧ slots + 800 ≤ room_1.slots := ⟨by omega, by omega⟩
  have hf2 : cells + 30 + 170 ≤ room_1.cells ∧ slots + 800 + 4200 ≤ room_1.slots := ⟨by omega, by omega⟩
  have hf3 : cells + 30 + 170 ≤ room_1.cells ∧ slots + 800 + 4200 ≤ room_1.slots := ⟨by omega, by omega⟩
  obtain ⟨p0, hp0⟩ : ∃ y : Int32, xs (nI (i + 1)).toNatClampNeg = y := ⟨_, rfl⟩
  obtain ⟨p1, hp1⟩ : ∃ y : Int32, xs (nI (i + 2)).toNatClampNeg = y := ⟨_, rfl⟩
  obtain ⟨p2, hp2⟩ : ∃ y : Int32, xs (nI (i + 3)).toNatClampNeg = y := ⟨_, rfl⟩
  refine lv_aload_n hx hb dL_law_1637 rfl (lv_at hl 1 rfl) ?_
  refine lv_aload_n hx hb dL_law_1638 rfl (lv_at hl 0 rfl) ?_
  refine lv_iload hx hb dL_law_1639 (lv_at hl 4 rfl) ?_
  refine lv_iconst (v := (1 : Int32)) hx hb dL_law_1641 (by decide) ?_
  refine lv_iadd hx hb dL_law_1642 ?_
  refine k_foldi (y := (nI (i + 1))) (nI_add i 1) ?_
  refine va_sld hx hb hX hbl hbA hS (vp_in_nI (by omega) (by omega)) dL_law_1643 ?_
  refine k_foldi (y := p0) hp0 ?_
  refine lv_aload_n hx hb dL_law_1644 rfl (lv_at hl 0 rfl) ?_
  refine lv_iload hx hb dL_law_1645 (lv_at hl 4 rfl) ?_
  refine lv_iconst (v := (2 : Int32)) hx hb dL_law_1647 (by decide) ?_
  refine lv_iadd hx hb dL_law_1648 ?_
  refine k_foldi (y := (nI (i + 2))) (nI_add i 2) ?_
  refine va_sld hx hb hX hbl hbA hS (vp_in_nI (by omega) (by omega)) dL_law_1649 ?_
  refine k_foldi (y := p1) hp1 ?_
  refine lv_aload_n hx hb dL_law_1650 rfl (lv_at hl 0 rfl) ?_
  refine lv_iload hx hb dL_law_1651 (lv_at hl 4 rfl) ?_
  refine lv_iconst (v := (3 : Int32)) hx hb dL_law_1653 (by decide) ?_
  refine lv_iadd hx hb dL_law_1654 ?_
  refine k_foldi (y := (nI (i + 3))) (nI_add i 3) ?_
  refine va_sld hx hb hX hbl hbA hS (vp_in_nI (by omega) (by omega)) dL_law_1655 ?_
  refine k_foldi (y := p2) hp2 ?_
  refine lv_aload_n hx hb dL_law_1656 rfl (lv_at hl 3 rfl) ?_
  refine lwHelp (n := 5) (wr := (wM G bb T)) (wd := (wH G a o n sv S)) (as := [.ref (a 0), .int p0, .int p1, .int p2, .ref o]) (rest := []) C (k_plusUnits l hl9 G a o n sv S p0 p1 p2) bw670 bw56 (by decide +kernel) rfl bw668 bw669 hN (hE.S hS hAB) hP hD hS hA hAB hl.1 dL_law_1657 ⟨(Nat.le_of_ble_eq_true rfl), (Nat.le_of_ble_eq_true rfl)⟩ rfl (Nat.le_of_ble_eq_true rfl) hf1 (fun r9 wd9 H locs hp9 hP hD hS => ?_)
  obtain ⟨c9, n9, sv9, S9, rfl, rfl, h9⟩ := hp9
  refine W.eq (g2 := F0 m 1660 ls [.int c9]) rfl ?_
  refine lv_istore (lv' := [(5, .int c9), (0, .ref b9), (1, .ref (a 0)), (2, .ref (bb 0)), (3, .ref o), (4, .int (nI i))]) hx hb dL_law_1660 hl (Nat.le_of_ble_eq_true rfl) rfl (fun ls hl => ?_)
  refine lv_aload_n hx hb dL_law_1662 rfl (lv_at hl 3 rfl) ?_
  refine lv_aload_n hx hb dL_law_1663 rfl (lv_at hl 1 rfl) ?_
  refine lv_iload hx hb dL_law_1664 (lv_at hl 5 rfl) ?_
  refine lv_iconst (v := (1 : Int32)) hx hb dL_law_1666 (by decide) ?_
  refine lv_iadd hx hb dL_law_1667 ?_
  refine k_foldi (y := (nI (i + 1))) (nI_add i 1) ?_
  refine va_sld hx hb hX hbl hbA hS (vp_in_nI (by omega) (by omega)) dL_law_1668 ?_
  refine k_foldi (y := p0) hp0 ?_
  refine lv_aload_n hx hb dL_law_1669 rfl (lv_at hl 1 rfl) ?_
  refine lv_iload hx hb dL_law_1670 (lv_at hl 5 rfl) ?_
  refine lv_iconst (v := (2 : Int32)) hx hb dL_law_1672 (by decide) ?_
  refine lv_iadd hx hb dL_law_1673 ?_
  refine k_foldi (y := (nI (i + 2))) (nI_add i 2) ?_
  refine va_sld hx hb hX hbl hbA hS (vp_in_nI (by omega) (by omega)) dL_law_1674 ?_
  refine k_foldi (y := p1) hp1 ?_
  refine lv_aload_n hx hb dL_law_1675 rfl (lv_at hl 1 rfl) ?_
  refine lv_iload hx hb dL_law_1676 (lv_at hl 5 rfl) ?_
  refine lv_iconst (v := (3 : Int32)) hx hb dL_law_1678 (by decide) ?_
  refine lv_iadd hx hb dL_law_1679 ?_
  refine k_foldi (y := (nI (i + 3))) (nI_add i 3) ?_
  refine va_sld hx hb hX hbl hbA hS (vp_in_nI (by omega) (by omega)) dL_law_1680 ?_
  refine k_foldi (y := p2) hp2 ?_
  refine lwWR (MC := 170) (MS := 4200) (st1 := [.int ((gX2_plusUnits T p0 p1 p2).1)]) (wr := (wH G a o n9 sv9 S9)) (wd := (wM G bb T)) (as := [.int p0, .int p1, .int p2]) (rest := []) (cl := RX2) (Nat.le_of_ble_eq_true rfl) (Nat.le_of_ble_eq_true rfl) C (c_X2_plusUnits l G bb T p0 p1 p2 (Rel.mo hR)) F_X2_plusUnits rfl bw1439 bw1440 bw1441 (hE.S hS hAB) hP hD hS hA hAB (rv4 hE.K (P_tl (wr := (wH G a o n9 sv9 S9)) hP) (q0 := 0) rfl) hl.1 dL_law_1681 ⟨(Nat.le_of_ble_eq_true rfl), (Nat.le_of_ble_eq_true rfl)⟩ rfl (Nat.le_of_ble_eq_true rfl) hf2 rfl (fun H locs hP hD hS => ?_)
  refine lv_istore (lv' := [(6, .int ((gX2_plusUnits T p0 p1 p2).1)), (5, .int c9), (0, .ref b9), (1, .ref (a 0)), (2, .ref (bb 0)), (3, .ref o), (4, .int (nI i))]) hx hb dL_law_1684 hl (Nat.le_of_ble_eq_true rfl) rfl (fun ls hl => ?_)
  refine lv_goto (tgt := 2412) hx hb dL_law_1686 (by decide) ?_
  refine W.widen (k := cells + 200) (n := slots + 5000) (by omega) (by omega) ?_
  exact kk n9 sv9 S9 ((gX2_plusUnits T p0 p1 p2).2) _ _ ls (rel_plusUnits hR h9) hP hD hS (lv_sub hl [2, 3, 4, 5, 6] rfl)

set_option maxRecDepth 100000 in
set_option maxHeartbeats 4000000 in
theorem case_year {p : Program} {l : Launch} {e : Env} {s : State} {m : MethodId} {below : List Frame} {meth : Method} {c : Code} {Q : State → Prop} {G : GT} {b9 L9 : Nat} {xs : Nat → Int32} {a bb : Nat → Nat} {o : Nat} (Z : LW p l s m meth c G b9 L9 xs) {i cells slots : Nat} (hi : i + 6 ≤ L9) (hf : cells + 200 ≤ room_1.cells ∧ slots + 5000 ≤ room_1.slots) {n : Int64} {sv : Value} {S : SX} {T : SM} (hR : Rel S T) {H : Heap} {locs : List Loc} {ls : Array Slot} (hP : va_P (gD G) vwCl (wM G bb T ++ wH G a o n sv S) H) (hD : va_D (fun q : Nat => s.heap.size ≤ q) (wM G bb T ++ wH G a o n sv S)) (hS : va_S (fun q : Nat => s.heap.size ≤ q) s.heap H locs) (hl : lv_has ls 7 [(0, .ref b9), (1, .ref (a 0)), (2, .ref (bb 0)), (3, .ref o), (4, .int (nI i))]) (kk : ∀ (n : Int64) (sv : Value) (S : SX) (T : SM) (H : Heap) (locs : List Loc) (ls : Array Slot), Rel S T → va_P (gD G) vwCl (wM G bb T ++ wH G a o n sv S) H → va_D (fun q : Nat => s.heap.size ≤ q) (wM G bb T ++ wH G a o n sv S) → va_S (fun q : Nat => s.heap.size ≤ q) s.heap H locs → lv_has ls 7 [(0, .ref b9), (1, .ref (a 0)), (2, .ref (bb 0)), (3, .ref o), (4, .int (nI i))] → W p l e room_1 s m #[Value.ref b9] below meth c H locs (cells + 200) (slots + 5000) Q (F0 m 2412 ls [])) : W p l e room_1 s m #[Value.ref b9] below meth c H locs (cells) (slots) Q (F0 m 1689 ls []) := by
  obtain ⟨C, hE, hN, hX, hbl, hl9, hL9, hA, hAB, hbA⟩ := Z
  have hx := C.1
  have hb := C.2.1
  have hml := C.2.2.1
  have hown := C.2.2.2.1
  have hw := C.2.2.2.2
  have hf0 : cells ≤ room_1.cells ∧ slots ≤ room_1.slots := ⟨by omega, by omega⟩
  have hf1 : cells + 30 ≤ room_1.cells ∧ slots + 800 ≤ room_1.slots := ⟨by omega, by omega⟩
  have hf2 : cells + 30 + 170 ≤ room_1.cells ∧ slots + 800 + 4200 ≤ room_1.slots := ⟨by omega, by omega⟩
  have hf3 : cells + 30 + 170 ≤ room_1.cells ∧ slots + 800 + 4200 ≤ room_1.slots := ⟨by omega, by omega⟩
  obtain ⟨p0, hp0⟩ : ∃ y : Int32, xs (nI (i + 1)).toNatClampNeg = y := ⟨_, rfl⟩
  refine lv_aload_n hx hb dL_law_1689 rfl (lv_at hl 1 rfl) ?_
  refine lv_aload_n hx hb dL_law_1690 rfl (lv_at hl 0 rfl) ?_
  refine lv_iload hx hb dL_law_1691 (lv_at hl 4 rfl) ?_
  refine lv_iconst (v := (1 : Int32)) hx hb dL_law_1693 (by decide) ?_
  refine lv_iadd hx hb dL_law_1694 ?_
  refine k_foldi (y := (nI (i + 1))) (nI_add i 1) ?_
  refine va_sld hx hb hX hbl hbA hS (vp_in_nI (by omega) (by omega)) dL_law_1695 ?_
  refine k_foldi (y := p0) hp0 ?_
  refine lv_aload_n hx hb dL_law_1696 rfl (lv_at hl 3 rfl) ?_
  refine lwHelp (n := 3) (wr := (wM G bb T)) (wd := (wH G a o n sv S)) (as := [.ref (a 0), .int p0, .ref o]) (rest := []) C (k_year l hl9 G a o n sv S p0) bw685 bw56 (by decide +kernel) rfl bw683 bw684 hN (hE.S hS hAB) hP hD hS hA hAB hl.1 dL_law_1697 ⟨(Nat.le_of_ble_eq_true rfl), (Nat.le_of_ble_eq_true rfl)⟩ rfl (Nat.le_of_ble_eq_true rfl) hf1 (fun r9 wd9 H locs hp9 hP hD hS => ?_)
  obtain ⟨c9, n9, sv9, S9, rfl, rfl, h9⟩ := hp9
  refine W.eq (g2 := F0 m 1700 ls [.int c9]) rfl ?_
  refine lv_istore (lv' := [(5, .int c9), (0, .ref b9), (1, .ref (a 0)), (2, .ref (bb 0)), (3, .ref o), (4, .int (nI i))]) hx hb dL_law_1700 hl (Nat.le_of_ble_eq_true rfl) rfl (fun ls hl => ?_)
  refine lv_aload_n hx hb dL_law_1702 rfl (lv_at hl 3 rfl) ?_
  refine lv_aload_n hx hb dL_law_1703 rfl (lv_at hl 1 rfl) ?_
  refine lv_iload hx hb dL_law_1704 (lv_at hl 5 rfl) ?_
  refine lv_iconst (v := (1 : Int32)) hx hb dL_law_1706 (by decide) ?_
  refine lv_iadd hx hb dL_law_1707 ?_
  refine k_foldi (y := (nI (i + 1))) (nI_add i 1) ?_
  refine va_sld hx hb hX hbl hbA hS (vp_in_nI (by omega) (by omega)) dL_law_1708 ?_
  refine k_foldi (y := p0) hp0 ?_
  refine lwWR (MC := 170) (MS := 4200) (st1 := [.int ((gX2_year T p0).1)]) (wr := (wH G a o n9 sv9 S9)) (wd := (wM G bb T)) (as := [.int p0]) (rest := []) (cl := RX2) (Nat.le_of_ble_eq_true rfl) (Nat.le_of_ble_eq_true rfl) C (c_X2_year l G bb T p0 (Rel.mo hR)) F_X2_year rfl bw1448 bw1449 bw1450 (hE.S hS hAB) hP hD hS hA hAB (rv4 hE.K (P_tl (wr := (wH G a o n9 sv9 S9)) hP) (q0 := 0) rfl) hl.1 dL_law_1709 ⟨(Nat.le_of_ble_eq_true rfl), (Nat.le_of_ble_eq_true rfl)⟩ rfl (Nat.le_of_ble_eq_true rfl) hf2 rfl (fun H locs hP hD hS => ?_)
  refine lv_istore (lv' := [(6, .int ((gX2_year T p0).1)), (5, .int c9), (0, .ref b9), (1, .ref (a 0)), (2, .ref (bb 0)), (3, .ref o), (4, .int (nI i))]) hx hb dL_law_1712 hl (Nat.le_of_ble_eq_true rfl) rfl (fun ls hl => ?_)
  refine lv_goto (tgt := 2412) hx hb dL_law_1714 (by decide) ?_
  refine W.widen (k := cells + 200) (n := slots + 5000) (by omega) (by omega) ?_
  exact kk n9 sv9 S9 ((gX2_year T p0).2) _ _ ls (rel_year hR h9) hP hD hS (lv_sub hl [2, 3, 4, 5, 6] rfl)

set_option maxRecDepth 100000 in
set_option maxHeartbeats 4000000 in
theorem case_month {p : Program} {l : Launch} {e : Env} {s : State} {m : MethodId} {below : List Frame} {meth : Method} {c : Code} {Q : State → Prop} {G : GT} {b9 L9 : Nat} {xs : Nat → Int32} {a bb : Nat → Nat} {o : Nat} (Z : LW p l s m meth c G b9 L9 xs) {i cells slots : Nat} (hi : i + 6 ≤ L9) (hf : cells + 200 ≤ room_1.cells ∧ slots + 5000 ≤ room_1.slots) {n : Int64} {sv : Value} {S : SX} {T : SM} (hR : Rel S T) {H : Heap} {locs : List Loc} {ls : Array Slot} (hP : va_P (gD G) vwCl (wM G bb T ++ wH G a o n sv S) H) (hD : va_D (fun q : Nat => s.heap.size ≤ q) (wM G bb T ++ wH G a o n sv S)) (hS : va_S (fun q : Nat => s.heap.size ≤ q) s.heap H locs) (hl : lv_has ls 7 [(0, .ref b9), (1, .ref (a 0)), (2, .ref (bb 0)), (3, .ref o), (4, .int (nI i))]) (kk : ∀ (n : Int64) (sv : Value) (S : SX) (T : SM) (H : Heap) (locs : List Loc) (ls : Array Slot), Rel S T → va_P (gD G) vwCl (wM G bb T ++ wH G a o n sv S) H → va_D (fun q : Nat => s.heap.size ≤ q) (wM G bb T ++ wH G a o n sv S) → va_S (fun q : Nat => s.heap.size ≤ q) s.heap H locs → lv_has ls 7 [(0, .ref b9), (1, .ref (a 0)), (2, .ref (bb 0)), (3, .ref o), (4, .int (nI i))] → W p l e room_1 s m #[Value.ref b9] below meth c H locs (cells + 200) (slots + 5000) Q (F0 m 2412 ls [])) : W p l e room_1 s m #[Value.ref b9] below meth c H locs (cells) (slots) Q (F0 m 1717 ls []) := by
  obtain ⟨C, hE, hN, hX, hbl, hl9, hL9, hA, hAB, hbA⟩ := Z
  have hx := C.1
  have hb := C.2.1
  have hml := C.2.2.1
  have hown := C.2.2.2.1
  have hw := C.2.2.2.2
  have hf0 : cells ≤ room_1.cells ∧ slots ≤ room_1.slots := ⟨by omega, by omega⟩
  have hf1 : cells + 30 ≤ room_1.cells ∧ slots + 800 ≤ room_1.slots := ⟨by omega, by omega⟩
  have hf2 : cells + 30 + 170 ≤ room_1.cells ∧ slots + 800 + 4200 ≤ room_1.slots := ⟨by omega, by omega⟩
  have hf3 : cells + 30 + 170 ≤ room_1.cells ∧ slots + 800 + 4200 ≤ room_1.slots := ⟨by omega, by omega⟩
  obtain ⟨p0, hp0⟩ : ∃ y : Int32, xs (nI (i + 1)).toNatClampNeg = y := ⟨_, rfl⟩
  refine lv_aload_n hx hb dL_law_1717 rfl (lv_at hl 1 rfl) ?_
  refine lv_aload_n hx hb dL_law_1718 rfl (lv_at hl 0 rfl) ?_
  refine lv_iload hx hb dL_law_1719 (lv_at hl 4 rfl) ?_
  refine lv_iconst (v := (1 : Int32)) hx hb dL_law_1721 (by decide) ?_
  refine lv_iadd hx hb dL_law_1722 ?_
  refine k_foldi (y := (nI (i + 1))) (nI_add i 1) ?_
  refine va_sld hx hb hX hbl hbA hS (vp_in_nI (by omega) (by omega)) dL_law_1723 ?_
  refine k_foldi (y := p0) hp0 ?_
  refine lv_aload_n hx hb dL_law_1724 rfl (lv_at hl 3 rfl) ?_
  refine lwHelp (n := 3) (wr := (wM G bb T)) (wd := (wH G a o n sv S)) (as := [.ref (a 0), .int p0, .ref o]) (rest := []) C (k_month l hl9 G a o n sv S p0) bw692 bw56 (by decide +kernel) rfl bw690 bw691 hN (hE.S hS hAB) hP hD hS hA hAB hl.1 dL_law_1725 ⟨(Nat.le_of_ble_eq_true rfl), (Nat.le_of_ble_eq_true rfl)⟩ rfl (Nat.le_of_ble_eq_true rfl) hf1 (fun r9 wd9 H locs hp9 hP hD hS => ?_)
  obtain ⟨c9, n9, sv9, S9, rfl, rfl, h9⟩ := hp9
  refine W.eq (g2 := F0 m 1728 ls [.int c9]) rfl ?_
  refine lv_istore (lv' := [(5, .int c9), (0, .ref b9), (1, .ref (a 0)), (2, .ref (bb 0)), (3, .ref o), (4, .int (nI i))]) hx hb dL_law_1728 hl (Nat.le_of_ble_eq_true rfl) rfl (fun ls hl => ?_)
  refine lv_aload_n hx hb dL_law_1730 rfl (lv_at hl 3 rfl) ?_
  refine lv_aload_n hx hb dL_law_1731 rfl (lv_at hl 1 rfl) ?_
  refine lv_iload hx hb dL_law_1732 (lv_at hl 5 rfl) ?_
  refine lv_iconst (v := (1 : Int32)) hx hb dL_law_1734 (by decide) ?_
  refine lv_iadd hx hb dL_law_1735 ?_
  refine k_foldi (y := (nI (i + 1))) (nI_add i 1) ?_
  refine va_sld hx hb hX hbl hbA hS (vp_in_nI (by omega) (by omega)) dL_law_1736 ?_
  refine k_foldi (y := p0) hp0 ?_
  refine lwWR (MC := 170) (MS := 4200) (st1 := [.int ((gX2_month T p0).1)]) (wr := (wH G a o n9 sv9 S9)) (wd := (wM G bb T)) (as := [.int p0]) (rest := []) (cl := RX2) (Nat.le_of_ble_eq_true rfl) (Nat.le_of_ble_eq_true rfl) C (c_X2_month l G bb T p0 (Rel.mo hR)) F_X2_month rfl bw1452 bw1453 bw1454 (hE.S hS hAB) hP hD hS hA hAB (rv4 hE.K (P_tl (wr := (wH G a o n9 sv9 S9)) hP) (q0 := 0) rfl) hl.1 dL_law_1737 ⟨(Nat.le_of_ble_eq_true rfl), (Nat.le_of_ble_eq_true rfl)⟩ rfl (Nat.le_of_ble_eq_true rfl) hf2 rfl (fun H locs hP hD hS => ?_)
  refine lv_istore (lv' := [(6, .int ((gX2_month T p0).1)), (5, .int c9), (0, .ref b9), (1, .ref (a 0)), (2, .ref (bb 0)), (3, .ref o), (4, .int (nI i))]) hx hb dL_law_1740 hl (Nat.le_of_ble_eq_true rfl) rfl (fun ls hl => ?_)
  refine lv_goto (tgt := 2412) hx hb dL_law_1742 (by decide) ?_
  refine W.widen (k := cells + 200) (n := slots + 5000) (by omega) (by omega) ?_
  exact kk n9 sv9 S9 ((gX2_month T p0).2) _ _ ls (rel_month hR h9) hP hD hS (lv_sub hl [2, 3, 4, 5, 6] rfl)

