set_option maxRecDepth 100000 in
set_option maxHeartbeats 4000000 in
theorem case_lengthOfMonth {p : Program} {l : Launch} {e : Env} {s : State} {m : MethodId} {below : List Frame} {meth : Method} {c : Code} {Q : State → Prop} {G : GT} {b9 L9 : Nat} {xs : Nat → Int32} {a bb : Nat → Nat} {o : Nat} (Z : LW p l s m meth c G b9 L9 xs) {i cells slots : Nat} (hi : i + 6 ≤ L9) (hf : cells + 200 ≤ room_1.cells ∧ slots + 5000 ≤ room_1.slots) {n : Int64} {sv : Value} {S : SX} {T : SM} (hR : Rel S T) {H : Heap} {locs : List Loc} {ls : Array Slot} (hP : va_P (gD G) vwCl (wM G bb T ++ wH G a o n sv S) H) (hD : va_D (fun q : Nat => s.heap.size ≤ q) (wM G bb T ++ wH G a o n sv S)) (hS : va_S (fun q : Nat => s.heap.size ≤ q) s.heap H locs) (hl : lv_has ls 7 [(0, .ref b9), (1, .ref (a 0)), (2, .ref (bb 0)), (3, .ref o), (4, .int (nI i))]) (kk : ∀ (n : Int64) (sv : Value) (S : SX) (T : SM) (H : Heap) (locs : List Loc) (ls : Array Slot), Rel S T → va_P (gD G) vwCl (wM G bb T ++ wH G a o n sv S) H → va_D (fun q : Nat => s.heap.size ≤ q) (wM G bb T ++ wH G a o n sv S) → va_S (fun q : Nat => s.heap.size ≤ q) s.heap H locs → lv_has ls 7 [(0, .ref b9), (1, .ref (a 0)), (2, .ref (bb 0)), (3, .ref o), (4, .int (nI i))] → W p l e room_1 s m #[Value.ref b9] below meth c H locs (cells + 200) (slots + 5000) Q (F0 m 2412 ls [])) : W p l e room_1 s m #[Value.ref b9] below meth c H locs (cells) (slots) Q (F0 m 1997 ls []) := by
  obtain ⟨C, hE, hN, hX, hbl, hl9, hL9, hA, hAB, hbA⟩ := Z
  have hx := C.1
  have hb := C.2.1
  have hml := C.2.2.1
  have hown := C.2.2.2.1
  have hw := C.2.2.2.2
  have hf0 : cells ≤ room_1.cells ∧ slots ≤ room_1.slots := ⟨by omega, by omega⟩
  have hf1 : cells + 30 ≤ room_1.cells ∧ slots + 800 ≤ room_1.slots := ⟨by omega, by omega⟩
  have hf2 : cells + 30 + 170 ≤ room_1.cells ∧ slots + 800 + 4200 ≤ room_1.slots := ⟨by omega, by omega⟩
  have hf3 : cells + 30 + 170 ≤ room_1.cells ∧ slots + 800 + 4200 ≤ room_1.slots := ⟨by omega, by omega⟩
  obtain ⟨p0, hp0⟩ : ∃ y : Int32, xs (nI (i + 1)).toNatClampNeg = y := ⟨_, rfl⟩
  refine lv_aload_n hx hb dL_law_1997 rfl (lv_at hl 1 rfl) ?_
  refine lv_aload_n hx hb dL_law_1998 rfl (lv_at hl 0 rfl) ?_
  refine lv_iload hx hb dL_law_1999 (lv_at hl 4 rfl) ?_
  refine lv_iconst (v := (1 : Int32)) hx hb dL_law_2001 (by decide) ?_
  refine lv_iadd hx hb dL_law_2002 ?_
  refine k_foldi (y := (nI (i + 1))) (nI_add i 1) ?_
  refine va_sld hx hb hX hbl hbA hS (vp_in_nI (by omega) (by omega)) dL_law_2003 ?_
  refine k_foldi (y := p0) hp0 ?_
  refine lv_aload_n hx hb dL_law_2004 rfl (lv_at hl 3 rfl) ?_
  refine lwHelp (n := 3) (wr := (wM G bb T)) (wd := (wH G a o n sv S)) (as := [.ref (a 0), .int p0, .ref o]) (rest := []) C (k_lengthOfMonth l hl9 G a o n sv S p0) bw762 bw56 (by decide +kernel) rfl bw760 bw761 hN (hE.S hS hAB) hP hD hS hA hAB hl.1 dL_law_2005 ⟨(Nat.le_of_ble_eq_true rfl), (Nat.le_of_ble_eq_true rfl)⟩ rfl (Nat.le_of_ble_eq_true rfl) hf1 (fun r9 wd9 H locs hp9 hP hD hS => ?_)
  obtain ⟨c9, n9, sv9, S9, rfl, rfl, h9⟩ := hp9
  refine W.eq (g2 := F0 m 2008 ls [.int c9]) rfl ?_
  refine lv_istore (lv' := [(5, .int c9), (0, .ref b9), (1, .ref (a 0)), (2, .ref (bb 0)), (3, .ref o), (4, .int (nI i))]) hx hb dL_law_2008 hl (Nat.le_of_ble_eq_true rfl) rfl (fun ls hl => ?_)
  refine lv_aload_n hx hb dL_law_2010 rfl (lv_at hl 3 rfl) ?_
  refine lv_aload_n hx hb dL_law_2011 rfl (lv_at hl 1 rfl) ?_
  refine lv_iload hx hb dL_law_2012 (lv_at hl 5 rfl) ?_
  refine lv_iconst (v := (1 : Int32)) hx hb dL_law_2014 (by decide) ?_
  refine lv_iadd hx hb dL_law_2015 ?_
  refine k_foldi (y := (nI (i + 1))) (nI_add i 1) ?_
  refine va_sld hx hb hX hbl hbA hS (vp_in_nI (by omega) (by omega)) dL_law_2016 ?_
  refine k_foldi (y := p0) hp0 ?_
  refine lwWR (MC := 170) (MS := 4200) (st1 := [.int ((gX2_lengthOfMonth T p0).1)]) (wr := (wH G a o n9 sv9 S9)) (wd := (wM G bb T)) (as := [.int p0]) (rest := []) (cl := RX2) (Nat.le_of_ble_eq_true rfl) (Nat.le_of_ble_eq_true rfl) C (c_X2_lengthOfMonth l G bb T p0 (Rel.mo hR)) F_X2_lengthOfMonth rfl bw1501 bw1502 bw1503 (hE.S hS hAB) hP hD hS hA hAB (rv4 hE.K (P_tl (wr := (wH G a o n9 sv9 S9)) hP) (q0 := 0) rfl) hl.1 dL_law_2017 ⟨(Nat.le_of_ble_eq_true rfl), (Nat.le_of_ble_eq_true rfl)⟩ rfl (Nat.le_of_ble_eq_true rfl) hf2 rfl (fun H locs hP hD hS => ?_)
  refine lv_istore (lv' := [(6, .int ((gX2_lengthOfMonth T p0).1)), (5, .int c9), (0, .ref b9), (1, .ref (a 0)), (2, .ref (bb 0)), (3, .ref o), (4, .int (nI i))]) hx hb dL_law_2020 hl (Nat.le_of_ble_eq_true rfl) rfl (fun ls hl => ?_)
  refine lv_goto (tgt := 2412) hx hb dL_law_2022 (by decide) ?_
  refine W.widen (k := cells + 200) (n := slots + 5000) (by omega) (by omega) ?_
  exact kk n9 sv9 S9 ((gX2_lengthOfMonth T p0).2) _ _ ls (rel_lengthOfMonth hR h9) hP hD hS (lv_sub hl [2, 3, 4, 5, 6] rfl)

set_option maxRecDepth 100000 in
set_option maxHeartbeats 4000000 in
theorem case_nanoOfDay {p : Program} {l : Launch} {e : Env} {s : State} {m : MethodId} {below : List Frame} {meth : Method} {c : Code} {Q : State → Prop} {G : GT} {b9 L9 : Nat} {xs : Nat → Int32} {a bb : Nat → Nat} {o : Nat} (Z : LW p l s m meth c G b9 L9 xs) {i cells slots : Nat} (hi : i + 6 ≤ L9) (hf : cells + 200 ≤ room_1.cells ∧ slots + 5000 ≤ room_1.slots) {n : Int64} {sv : Value} {S : SX} {T : SM} (hR : Rel S T) {H : Heap} {locs : List Loc} {ls : Array Slot} (hP : va_P (gD G) vwCl (wM G bb T ++ wH G a o n sv S) H) (hD : va_D (fun q : Nat => s.heap.size ≤ q) (wM G bb T ++ wH G a o n sv S)) (hS : va_S (fun q : Nat => s.heap.size ≤ q) s.heap H locs) (hl : lv_has ls 7 [(0, .ref b9), (1, .ref (a 0)), (2, .ref (bb 0)), (3, .ref o), (4, .int (nI i))]) (kk : ∀ (n : Int64) (sv : Value) (S : SX) (T : SM) (H : Heap) (locs : List Loc) (ls : Array Slot), Rel S T → va_P (gD G) vwCl (wM G bb T ++ wH G a o n sv S) H → va_D (fun q : Nat => s.heap.size ≤ q) (wM G bb T ++ wH G a o n sv S) → va_S (fun q : Nat => s.heap.size ≤ q) s.heap H locs → lv_has ls 7 [(0, .ref b9), (1, .ref (a 0)), (2, .ref (bb 0)), (3, .ref o), (4, .int (nI i))] → W p l e room_1 s m #[Value.ref b9] below meth c H locs (cells + 200) (slots + 5000) Q (F0 m 2412 ls [])) : W p l e room_1 s m #[Value.ref b9] below meth c H locs (cells) (slots) Q (F0 m 2025 ls []) := by
  obtain ⟨C, hE, hN, hX, hbl, hl9, hL9, hA, hAB, hbA⟩ := Z
  have hx := C.1
  have hb := C.2.1
  have hml := C.2.2.1
  have hown := C.2.2.2.1
  have hw := C.2.2.2.2
  have hf0 : cells ≤ room_1.cells ∧ slots ≤ room_1.slots := ⟨by omega, by omega⟩
  have hf1 : cells + 30 ≤ room_1.cells ∧ slots + 800 ≤ room_1.slots := ⟨by omega, by omega⟩
  have hf2 : cells + 30 + 170 ≤ room_1.cells ∧ slots + 800 + 4200 ≤ room_1.slots := ⟨by omega, by omega⟩
  have hf3 : cells + 30 + 170 ≤ room_1.cells ∧ slots + 800 + 4200 ≤ room_1.slots := ⟨by omega, by omega⟩
  obtain ⟨p0, hp0⟩ : ∃ y : Int32, xs (nI (i + 1)).toNatClampNeg = y := ⟨_, rfl⟩
  refine lv_aload_n hx hb dL_law_2025 rfl (lv_at hl 1 rfl) ?_
  refine lv_aload_n hx hb dL_law_2026 rfl (lv_at hl 0 rfl) ?_
  refine lv_iload hx hb dL_law_2027 (lv_at hl 4 rfl) ?_
  refine lv_iconst (v := (1 : Int32)) hx hb dL_law_2029 (by decide) ?_
  refine lv_iadd hx hb dL_law_2030 ?_
  refine k_foldi (y := (nI (i + 1))) (nI_add i 1) ?_
  refine va_sld hx hb hX hbl hbA hS (vp_in_nI (by omega) (by omega)) dL_law_2031 ?_
  refine k_foldi (y := p0) hp0 ?_
  refine lv_aload_n hx hb dL_law_2032 rfl (lv_at hl 3 rfl) ?_
  refine lwHelp (n := 3) (wr := (wM G bb T)) (wd := (wH G a o n sv S)) (as := [.ref (a 0), .int p0, .ref o]) (rest := []) C (k_nanoOfDay l hl9 G a o n sv S p0) bw769 bw56 (by decide +kernel) rfl bw767 bw768 hN (hE.S hS hAB) hP hD hS hA hAB hl.1 dL_law_2033 ⟨(Nat.le_of_ble_eq_true rfl), (Nat.le_of_ble_eq_true rfl)⟩ rfl (Nat.le_of_ble_eq_true rfl) hf1 (fun r9 wd9 H locs hp9 hP hD hS => ?_)
  obtain ⟨c9, n9, sv9, S9, rfl, rfl, h9⟩ := hp9
  refine W.eq (g2 := F0 m 2036 ls [.int c9]) rfl ?_
  refine lv_istore (lv' := [(5, .int c9), (0, .ref b9), (1, .ref (a 0)), (2, .ref (bb 0)), (3, .ref o), (4, .int (nI i))]) hx hb dL_law_2036 hl (Nat.le_of_ble_eq_true rfl) rfl (fun ls hl => ?_)
  refine lv_aload_n hx hb dL_law_2038 rfl (lv_at hl 3 rfl) ?_
  refine lv_aload_n hx hb dL_law_2039 rfl (lv_at hl 1 rfl) ?_
  refine lv_iload hx hb dL_law_2040 (lv_at hl 5 rfl) ?_
  refine lv_iconst (v := (1 : Int32)) hx hb dL_law_2042 (by decide) ?_
  refine lv_iadd hx hb dL_law_2043 ?_
  refine k_foldi (y := (nI (i + 1))) (nI_add i 1) ?_
  refine va_sld hx hb hX hbl hbA hS (vp_in_nI (by omega) (by omega)) dL_law_2044 ?_
  refine k_foldi (y := p0) hp0 ?_
  refine lwWE (MC := 170) (MS := 4200) (wr := (wH G a o n9 sv9 S9)) (wd := (wM G bb T)) (as := [.int p0]) (rest := []) (cl := RX2) (Nat.le_of_ble_eq_true rfl) (Nat.le_of_ble_eq_true rfl) C (u_nanoOfDay l G bb T p0 (Rel.mo hR)) F_X2_nanoOfDay rfl bw1505 bw1506 bw1507 (hE.S hS hAB) hP hD hS hA hAB (rv4 hE.K (P_tl (wr := (wH G a o n9 sv9 S9)) hP) (q0 := 0) rfl) hl.1 dL_law_2045 ⟨(Nat.le_of_ble_eq_true rfl), (Nat.le_of_ble_eq_true rfl)⟩ rfl (Nat.le_of_ble_eq_true rfl) hf2 (fun r9 wd9 H locs hp9 hP hD hS => ?_)
  obtain ⟨⟨q9, rfl⟩, rfl⟩ := hp9
  refine W.eq (g2 := F0 m 2048 ls [.ref q9]) rfl ?_
  refine lv_astore (lv' := [(6, .ref q9), (5, .int c9), (0, .ref b9), (1, .ref (a 0)), (2, .ref (bb 0)), (3, .ref o), (4, .int (nI i))]) hx hb dL_law_2048 hl (Nat.le_of_ble_eq_true rfl) rfl (fun ls hl => ?_)
  refine lv_goto (tgt := 2412) hx hb dL_law_2050 (by decide) ?_
  refine W.widen (k := cells + 200) (n := slots + 5000) (by omega) (by omega) ?_
  exact kk n9 sv9 S9 (gX2_nanoOfDay T p0) _ _ ls (rel_nanoOfDay hR h9) hP hD hS (lv_sub hl [2, 3, 4, 5, 6] rfl)

set_option maxRecDepth 100000 in
set_option maxHeartbeats 4000000 in
theorem case_isLeap {p : Program} {l : Launch} {e : Env} {s : State} {m : MethodId} {below : List Frame} {meth : Method} {c : Code} {Q : State → Prop} {G : GT} {b9 L9 : Nat} {xs : Nat → Int32} {a bb : Nat → Nat} {o : Nat} (Z : LW p l s m meth c G b9 L9 xs) {i cells slots : Nat} (hi : i + 6 ≤ L9) (hf : cells + 200 ≤ room_1.cells ∧ slots + 5000 ≤ room_1.slots) {n : Int64} {sv : Value} {S : SX} {T : SM} (hR : Rel S T) {H : Heap} {locs : List Loc} {ls : Array Slot} (hP : va_P (gD G) vwCl (wM G bb T ++ wH G a o n sv S) H) (hD : va_D (fun q : Nat => s.heap.size ≤ q) (wM G bb T ++ wH G a o n sv S)) (hS : va_S (fun q : Nat => s.heap.size ≤ q) s.heap H locs) (hl : lv_has ls 7 [(0, .ref b9), (1, .ref (a 0)), (2, .ref (bb 0)), (3, .ref o), (4, .int (nI i))]) (kk : ∀ (n : Int64) (sv : Value) (S : SX) (T : SM) (H : Heap) (locs : List Loc) (ls : Array Slot), Rel S T → va_P (gD G) vwCl (wM G bb T ++ wH G a o n sv S) H → va_D (fun q : Nat => s.heap.size ≤ q) (wM G bb T ++ wH G a o n sv S) → va_S (fun q : Nat => s.heap.size ≤ q) s.heap H locs → lv_has ls 7 [(0, .ref b9), (1, .ref (a 0)), (2, .ref (bb 0)), (3, .ref o), (4, .int (nI i))] → W p l e room_1 s m #[Value.ref b9] below meth c H locs (cells + 200) (slots + 5000) Q (F0 m 2412 ls [])) : W p l e room_1 s m #[Value.ref b9] below meth c H locs (cells) (slots) Q (F0 m 2053 ls []) := by
  obtain ⟨C, hE, hN, hX, hbl, hl9, hL9, hA, hAB, hbA⟩ := Z
  have hx := C.1
  have hb := C.2.1
  have hml := C.2.2.1
  have hown := C.2.2.2.1
  have hw := C.2.2.2.2
  have hf0 : cells ≤ room_1.cells ∧ slots ≤ room_1.slots := ⟨by omega, by omega⟩
  have hf1 : cells + 30 ≤ room_1.cells ∧ slots + 800 ≤ room_1.slots := ⟨by omega, by omega⟩
  have hf2 : cells + 30 + 170 ≤ room_1.cells ∧ slots + 800 + 4200 ≤ room_1.slots := ⟨by omega, by omega⟩
  have hf3 : cells + 30 + 170 ≤ room_1.cells ∧ slots + 800 + 4200 ≤ room_1.slots := ⟨by omega, by omega⟩
  obtain ⟨p0, hp0⟩ : ∃ y : Int32, xs (nI (i + 1)).toNatClampNeg = y := ⟨_, rfl⟩
  refine lv_aload_n hx hb dL_law_2053 rfl (lv_at hl 1 rfl) ?_
  refine lv_aload_n hx hb dL_law_2054 rfl (lv_at hl 0 rfl) ?_
  refine lv_iload hx hb dL_law_2055 (lv_at hl 4 rfl) ?_
  refine lv_iconst (v := (1 : Int32)) hx hb dL_law_2057 (by decide) ?_
  refine lv_iadd hx hb dL_law_2058 ?_
  refine k_foldi (y := (nI (i + 1))) (nI_add i 1) ?_
  refine va_sld hx hb hX hbl hbA hS (vp_in_nI (by omega) (by omega)) dL_law_2059 ?_
  refine k_foldi (y := p0) hp0 ?_
  refine lv_aload_n hx hb dL_law_2060 rfl (lv_at hl 3 rfl) ?_
  refine lwHelp (n := 3) (wr := (wM G bb T)) (wd := (wH G a o n sv S)) (as := [.ref (a 0), .int p0, .ref o]) (rest := []) C (k_isLeap l hl9 G a o n sv S p0) bw1076 bw56 (by decide +kernel) rfl bw1074 bw1075 hN (hE.S hS hAB) hP hD hS hA hAB hl.1 dL_law_2061 ⟨(Nat.le_of_ble_eq_true rfl), (Nat.le_of_ble_eq_true rfl)⟩ rfl (Nat.le_of_ble_eq_true rfl) hf1 (fun r9 wd9 H locs hp9 hP hD hS => ?_)
  obtain ⟨c9, n9, sv9, S9, rfl, rfl, h9⟩ := hp9
  refine W.eq (g2 := F0 m 2064 ls [.int c9]) rfl ?_
  refine lv_istore (lv' := [(5, .int c9), (0, .ref b9), (1, .ref (a 0)), (2, .ref (bb 0)), (3, .ref o), (4, .int (nI i))]) hx hb dL_law_2064 hl (Nat.le_of_ble_eq_true rfl) rfl (fun ls hl => ?_)
  refine lv_aload_n hx hb dL_law_2066 rfl (lv_at hl 3 rfl) ?_
  refine lv_aload_n hx hb dL_law_2067 rfl (lv_at hl 1 rfl) ?_
  refine lv_iload hx hb dL_law_2068 (lv_at hl 5 rfl) ?_
  refine lv_iconst (v := (1 : Int32)) hx hb dL_law_2070 (by decide) ?_
  refine lv_iadd hx hb dL_law_2071 ?_
  refine k_foldi (y := (nI (i + 1))) (nI_add i 1) ?_
  refine va_sld hx hb hX hbl hbA hS (vp_in_nI (by omega) (by omega)) dL_law_2072 ?_
  refine k_foldi (y := p0) hp0 ?_
  refine lwWR (MC := 170) (MS := 4200) (st1 := [.int ((gX2_isLeap T p0).1)]) (wr := (wH G a o n9 sv9 S9)) (wd := (wM G bb T)) (as := [.int p0]) (rest := []) (cl := RX2) (Nat.le_of_ble_eq_true rfl) (Nat.le_of_ble_eq_true rfl) C (c_X2_isLeap l G bb T p0 (Rel.mo hR)) F_X2_isLeap rfl bw1541 bw1542 bw1543 (hE.S hS hAB) hP hD hS hA hAB (rv4 hE.K (P_tl (wr := (wH G a o n9 sv9 S9)) hP) (q0 := 0) rfl) hl.1 dL_law_2073 ⟨(Nat.le_of_ble_eq_true rfl), (Nat.le_of_ble_eq_true rfl)⟩ rfl (Nat.le_of_ble_eq_true rfl) hf2 rfl (fun H locs hP hD hS => ?_)
  refine lv_istore (lv' := [(6, .int ((gX2_isLeap T p0).1)), (5, .int c9), (0, .ref b9), (1, .ref (a 0)), (2, .ref (bb 0)), (3, .ref o), (4, .int (nI i))]) hx hb dL_law_2076 hl (Nat.le_of_ble_eq_true rfl) rfl (fun ls hl => ?_)
  refine lv_goto (tgt := 2412) hx hb dL_law_2078 (by decide) ?_
  refine W.widen (k := cells + 200) (n := slots + 5000) (by omega) (by omega) ?_
  exact kk n9 sv9 S9 ((gX2_isLeap T p0).2) _ _ ls (rel_isLeap hR h9) hP hD hS (lv_sub hl [2, 3, 4, 5, 6] rfl)

