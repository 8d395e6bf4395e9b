set_option maxRecDepth 100000 in
set_option maxHeartbeats 4000000 in
theorem case_between {p : Program} {l : Launch} {e : Env} {s : State} {m : MethodId} {below : List Frame} {meth : Method} {c : Code} {Q : State → Prop} {G : GT} {b9 L9 : Nat} {xs : Nat → Int32} {a bb : Nat → Nat} {o : Nat} (Z : LW p l s m meth c G b9 L9 xs) {i cells slots : Nat} (hi : i + 6 ≤ L9) (hf : cells + 200 ≤ room_1.cells ∧ slots + 5000 ≤ room_1.slots) {n : Int64} {sv : Value} {S : SX} {T : SM} (hR : Rel S T) {H : Heap} {locs : List Loc} {ls : Array Slot} (hP : va_P (gD G) vwCl (wM G bb T ++ wH G a o n sv S) H) (hD : va_D (fun q : Nat => s.heap.size ≤ q) (wM G bb T ++ wH G a o n sv S)) (hS : va_S (fun q : Nat => s.heap.size ≤ q) s.heap H locs) (hl : lv_has ls 7 [(0, .ref b9), (1, .ref (a 0)), (2, .ref (bb 0)), (3, .ref o), (4, .int (nI i))]) (kk : ∀ (n : Int64) (sv : Value) (S : SX) (T : SM) (H : Heap) (locs : List Loc) (ls : Array Slot), Rel S T → va_P (gD G) vwCl (wM G bb T ++ wH G a o n sv S) H → va_D (fun q : Nat => s.heap.size ≤ q) (wM G bb T ++ wH G a o n sv S) → va_S (fun q : Nat => s.heap.size ≤ q) s.heap H locs → lv_has ls 7 [(0, .ref b9), (1, .ref (a 0)), (2, .ref (bb 0)), (3, .ref o), (4, .int (nI i))] → W p l e room_1 s m #[Value.ref b9] below meth c H locs (cells + 200) (slots + 5000) Q (F0 m 2412 ls [])) : W p l e room_1 s m #[Value.ref b9] below meth c H locs (cells) (slots) Q (F0 m 2241 ls []) := by
  obtain ⟨C, hE, hN, hX, hbl, hl9, hL9, hA, hAB, hbA⟩ := Z
  have hx := C.1
  have hb := C.2.1
  have hml := C.2.2.1
  have hown := C.2.2.2.1
  have hw := C.2.2.2.2
  have hf0 : cells ≤ room_1.cells ∧ slots ≤ room_1.slots := ⟨by omega, by omega⟩
  have hf1 : cells + 30 ≤ room_1.cells ∧ slots + 800 ≤ room_1.slots := ⟨by omega, by omega⟩
  have hf2 : cells + 30 + 170 ≤ room_1.cells ∧ slots + 800 + 4200 ≤ room_1.slots := ⟨by omega, by omega⟩
  have hf3 : cells + 30 + 170 ≤ room_1.cells ∧ slots + 800 + 4200 ≤ room_1.slots := ⟨by omega, by omega⟩
  obtain ⟨p0, hp0⟩ : ∃ y : Int32, xs (nI (i + 1)).toNatClampNeg = y := ⟨_, rfl⟩
  obtain ⟨p1, hp1⟩ : ∃ y : Int32, xs (nI (i + 2)).toNatClampNeg = y := ⟨_, rfl⟩
  obtain ⟨p2, hp2⟩ : ∃ y : Int32, xs (nI (i + 3)).toNatClampNeg = y := ⟨_, rfl⟩
  refine lv_aload_n hx hb dL_law_2241 rfl (lv_at hl 1 rfl) ?_
  refine lv_aload_n hx hb dL_law_2242 rfl (lv_at hl 0 rfl) ?_
  refine lv_iload hx hb dL_law_2243 (lv_at hl 4 rfl) ?_
  refine lv_iconst (v := (1 : Int32)) hx hb dL_law_2245 (by decide) ?_
  refine lv_iadd hx hb dL_law_2246 ?_
  refine k_foldi (y := (nI (i + 1))) (nI_add i 1) ?_
  refine va_sld hx hb hX hbl hbA hS (vp_in_nI (by omega) (by omega)) dL_law_2247 ?_
  refine k_foldi (y := p0) hp0 ?_
  refine lv_aload_n hx hb dL_law_2248 rfl (lv_at hl 0 rfl) ?_
  refine lv_iload hx hb dL_law_2249 (lv_at hl 4 rfl) ?_
  refine lv_iconst (v := (2 : Int32)) hx hb dL_law_2251 (by decide) ?_
  refine lv_iadd hx hb dL_law_2252 ?_
  refine k_foldi (y := (nI (i + 2))) (nI_add i 2) ?_
  refine va_sld hx hb hX hbl hbA hS (vp_in_nI (by omega) (by omega)) dL_law_2253 ?_
  refine k_foldi (y := p1) hp1 ?_
  refine lv_aload_n hx hb dL_law_2254 rfl (lv_at hl 0 rfl) ?_
  refine lv_iload hx hb dL_law_2255 (lv_at hl 4 rfl) ?_
  refine lv_iconst (v := (3 : Int32)) hx hb dL_law_2257 (by decide) ?_
  refine lv_iadd hx hb dL_law_2258 ?_
  refine k_foldi (y := (nI (i + 3))) (nI_add i 3) ?_
  refine va_sld hx hb hX hbl hbA hS (vp_in_nI (by omega) (by omega)) dL_law_2259 ?_
  refine k_foldi (y := p2) hp2 ?_
  refine lv_aload_n hx hb dL_law_2260 rfl (lv_at hl 3 rfl) ?_
  refine lwHelp (n := 5) (wr := (wM G bb T)) (wd := (wH G a o n sv S)) (as := [.ref (a 0), .int p0, .int p1, .int p2, .ref o]) (rest := []) C (k_between l hl9 G a o n sv S p0 p1 p2) bw1120 bw56 (by decide +kernel) rfl bw1118 bw1119 hN (hE.S hS hAB) hP hD hS hA hAB hl.1 dL_law_2261 ⟨(Nat.le_of_ble_eq_true rfl), (Nat.le_of_ble_eq_true rfl)⟩ rfl (Nat.le_of_ble_eq_true rfl) hf1 (fun r9 wd9 H locs hp9 hP hD hS => ?_)
  obtain ⟨c9, n9, sv9, S9, rfl, rfl, h9⟩ := hp9
  refine W.eq (g2 := F0 m 2264 ls [.int c9]) rfl ?_
  refine lv_istore (lv' := [(5, .int c9), (0, .ref b9), (1, .ref (a 0)), (2, .ref (bb 0)), (3, .ref o), (4, .int (nI i))]) hx hb dL_law_2264 hl (Nat.le_of_ble_eq_true rfl) rfl (fun ls hl => ?_)
  refine lv_aload_n hx hb dL_law_2266 rfl (lv_at hl 3 rfl) ?_
  refine lv_aload_n hx hb dL_law_2267 rfl (lv_at hl 1 rfl) ?_
  refine lv_iload hx hb dL_law_2268 (lv_at hl 5 rfl) ?_
  refine lv_iconst (v := (1 : Int32)) hx hb dL_law_2270 (by decide) ?_
  refine lv_iadd hx hb dL_law_2271 ?_
  refine k_foldi (y := (nI (i + 1))) (nI_add i 1) ?_
  refine va_sld hx hb hX hbl hbA hS (vp_in_nI (by omega) (by omega)) dL_law_2272 ?_
  refine k_foldi (y := p0) hp0 ?_
  refine lv_aload_n hx hb dL_law_2273 rfl (lv_at hl 1 rfl) ?_
  refine lv_iload hx hb dL_law_2274 (lv_at hl 5 rfl) ?_
  refine lv_iconst (v := (2 : Int32)) hx hb dL_law_2276 (by decide) ?_
  refine lv_iadd hx hb dL_law_2277 ?_
  refine k_foldi (y := (nI (i + 2))) (nI_add i 2) ?_
  refine va_sld hx hb hX hbl hbA hS (vp_in_nI (by omega) (by omega)) dL_law_2278 ?_
  refine k_foldi (y := p1) hp1 ?_
  refine lv_aload_n hx hb dL_law_2279 rfl (lv_at hl 1 rfl) ?_
  refine lv_iload hx hb dL_law_2280 (lv_at hl 5 rfl) ?_
  refine lv_iconst (v := (3 : Int32)) hx hb dL_law_2282 (by decide) ?_
  refine lv_iadd hx hb dL_law_2283 ?_
  refine k_foldi (y := (nI (i + 3))) (nI_add i 3) ?_
  refine va_sld hx hb hX hbl hbA hS (vp_in_nI (by omega) (by omega)) dL_law_2284 ?_
  refine k_foldi (y := p2) hp2 ?_
  refine lwWE (MC := 170) (MS := 4200) (wr := (wH G a o n9 sv9 S9)) (wd := (wM G bb T)) (as := [.int p0, .int p1, .int p2]) (rest := []) (cl := RX2) (Nat.le_of_ble_eq_true rfl) (Nat.le_of_ble_eq_true rfl) C (u_between l G bb T p0 p1 p2 (Rel.mo hR)) F_X2_between rfl bw1573 bw1574 bw1575 (hE.S hS hAB) hP hD hS hA hAB (rv4 hE.K (P_tl (wr := (wH G a o n9 sv9 S9)) hP) (q0 := 0) rfl) hl.1 dL_law_2285 ⟨(Nat.le_of_ble_eq_true rfl), (Nat.le_of_ble_eq_true rfl)⟩ rfl (Nat.le_of_ble_eq_true rfl) hf2 (fun r9 wd9 H locs hp9 hP hD hS => ?_)
  obtain ⟨⟨q9, rfl⟩, rfl⟩ := hp9
  refine W.eq (g2 := F0 m 2288 ls [.ref q9]) rfl ?_
  refine lv_astore (lv' := [(6, .ref q9), (5, .int c9), (0, .ref b9), (1, .ref (a 0)), (2, .ref (bb 0)), (3, .ref o), (4, .int (nI i))]) hx hb dL_law_2288 hl (Nat.le_of_ble_eq_true rfl) rfl (fun ls hl => ?_)
  refine lv_goto (tgt := 2412) hx hb dL_law_2290 (by decide) ?_
  refine W.widen (k := cells + 200) (n := slots + 5000) (by omega) (by omega) ?_
  exact kk n9 sv9 S9 (gX2_between T p0 p1 p2) _ _ ls (rel_between hR h9) hP hD hS (lv_sub hl [2, 3, 4, 5, 6] rfl)

set_option maxRecDepth 100000 in
set_option maxHeartbeats 4000000 in
theorem case_until {p : Program} {l : Launch} {e : Env} {s : State} {m : MethodId} {below : List Frame} {meth : Method} {c : Code} {Q : State → Prop} {G : GT} {b9 L9 : Nat} {xs : Nat → Int32} {a bb : Nat → Nat} {o : Nat} (Z : LW p l s m meth c G b9 L9 xs) {i cells slots : Nat} (hi : i + 6 ≤ L9) (hf : cells + 200 ≤ room_1.cells ∧ slots + 5000 ≤ room_1.slots) {n : Int64} {sv : Value} {S : SX} {T : SM} (hR : Rel S T) {H : Heap} {locs : List Loc} {ls : Array Slot} (hP : va_P (gD G) vwCl (wM G bb T ++ wH G a o n sv S) H) (hD : va_D (fun q : Nat => s.heap.size ≤ q) (wM G bb T ++ wH G a o n sv S)) (hS : va_S (fun q : Nat => s.heap.size ≤ q) s.heap H locs) (hl : lv_has ls 7 [(0, .ref b9), (1, .ref (a 0)), (2, .ref (bb 0)), (3, .ref o), (4, .int (nI i))]) (kk : ∀ (n : Int64) (sv : Value) (S : SX) (T : SM) (H : Heap) (locs : List Loc) (ls : Array Slot), Rel S T → va_P (gD G) vwCl (wM G bb T ++ wH G a o n sv S) H → va_D (fun q : Nat => s.heap.size ≤ q) (wM G bb T ++ wH G a o n sv S) → va_S (fun q : Nat => s.heap.size ≤ q) s.heap H locs → lv_has ls 7 [(0, .ref b9), (1, .ref (a 0)), (2, .ref (bb 0)), (3, .ref o), (4, .int (nI i))] → W p l e room_1 s m #[Value.ref b9] below meth c H locs (cells + 200) (slots + 5000) Q (F0 m 2412 ls [])) : W p l e room_1 s m #[Value.ref b9] below meth c H locs (cells) (slots) Q (F0 m 2293 ls []) := by
  obtain ⟨C, hE, hN, hX, hbl, hl9, hL9, hA, hAB, hbA⟩ := Z
  have hx := C.1
  have hb := C.2.1
  have hml := C.2.2.1
  have hown := C.2.2.2.1
  have hw := C.2.2.2.2
  have hf0 : cells ≤ room_1.cells ∧ slots ≤ room_1.slots := ⟨by omega, by omega⟩
  have hf1 : cells + 30 ≤ room_1.cells ∧ slots + 800 ≤ room_1.slots := ⟨by omega, by omega⟩
  have hf2 : cells + 30 + 170 ≤ room_1.cells ∧ slots + 800 + 4200 ≤ room_1.slots := ⟨by omega, by omega⟩
  have hf3 : cells + 30 + 170 ≤ room_1.cells ∧ slots + 800 + 4200 ≤ room_1.slots := ⟨by omega, by omega⟩
  obtain ⟨p0, hp0⟩ : ∃ y : Int32, xs (nI (i + 1)).toNatClampNeg = y := ⟨_, rfl⟩
  obtain ⟨p1, hp1⟩ : ∃ y : Int32, xs (nI (i + 2)).toNatClampNeg = y := ⟨_, rfl⟩
  obtain ⟨p2, hp2⟩ : ∃ y : Int32, xs (nI (i + 3)).toNatClampNeg = y := ⟨_, rfl⟩
  refine lv_aload_n hx hb dL_law_2293 rfl (lv_at hl 1 rfl) ?_
  refine lv_aload_n hx hb dL_law_2294 rfl (lv_at hl 0 rfl) ?_
  refine lv_iload hx hb dL_law_2295 (lv_at hl 4 rfl) ?_
  refine lv_iconst (v := (1 : Int32)) hx hb dL_law_2297 (by decide) ?_
  refine lv_iadd hx hb dL_law_2298 ?_
  refine k_foldi (y := (nI (i + 1))) (nI_add i 1) ?_
  refine va_sld hx hb hX hbl hbA hS (vp_in_nI (by omega) (by omega)) dL_law_2299 ?_
  refine k_foldi (y := p0) hp0 ?_
  refine lv_aload_n hx hb dL_law_2300 rfl (lv_at hl 0 rfl) ?_
  refine lv_iload hx hb dL_law_2301 (lv_at hl 4 rfl) ?_
  refine lv_iconst (v := (2 : Int32)) hx hb dL_law_2303 (by decide) ?_
  refine lv_iadd hx hb dL_law_2304 ?_
  refine k_foldi (y := (nI (i + 2))) (nI_add i 2) ?_
  refine va_sld hx hb hX hbl hbA hS (vp_in_nI (by omega) (by omega)) dL_law_2305 ?_
  refine k_foldi (y := p1) hp1 ?_
  refine lv_aload_n hx hb dL_law_2306 rfl (lv_at hl 0 rfl) ?_
  refine lv_iload hx hb dL_law_2307 (lv_at hl 4 rfl) ?_
  refine lv_iconst (v := (3 : Int32)) hx hb dL_law_2309 (by decide) ?_
  refine lv_iadd hx hb dL_law_2310 ?_
  refine k_foldi (y := (nI (i + 3))) (nI_add i 3) ?_
  refine va_sld hx hb hX hbl hbA hS (vp_in_nI (by omega) (by omega)) dL_law_2311 ?_
  refine k_foldi (y := p2) hp2 ?_
  refine lv_aload_n hx hb dL_law_2312 rfl (lv_at hl 3 rfl) ?_
  refine lwHelp (n := 5) (wr := (wM G bb T)) (wd := (wH G a o n sv S)) (as := [.ref (a 0), .int p0, .int p1, .int p2, .ref o]) (rest := []) C (k_until l hl9 G a o n sv S p0 p1 p2) bw1145 bw56 (by decide +kernel) rfl bw1143 bw1144 hN (hE.S hS hAB) hP hD hS hA hAB hl.1 dL_law_2313 ⟨(Nat.le_of_ble_eq_true rfl), (Nat.le_of_ble_eq_true rfl)⟩ rfl (Nat.le_of_ble_eq_true rfl) hf1 (fun r9 wd9 H locs hp9 hP hD hS => ?_)
  obtain ⟨c9, n9, sv9, S9, rfl, rfl, h9⟩ := hp9
  refine W.eq (g2 := F0 m 2316 ls [.int c9]) rfl ?_
  refine lv_istore (lv' := [(5, .int c9), (0, .ref b9), (1, .ref (a 0)), (2, .ref (bb 0)), (3, .ref o), (4, .int (nI i))]) hx hb dL_law_2316 hl (Nat.le_of_ble_eq_true rfl) rfl (fun ls hl => ?_)
  refine lv_aload_n hx hb dL_law_2318 rfl (lv_at hl 3 rfl) ?_
  refine lv_aload_n hx hb dL_law_2319 rfl (lv_at hl 1 rfl) ?_
  refine lv_iload hx hb dL_law_2320 (lv_at hl 5 rfl) ?_
  refine lv_iconst (v := (1 : Int32)) hx hb dL_law_2322 (by decide) ?_
  refine lv_iadd hx hb dL_law_2323 ?_
  refine k_foldi (y := (nI (i + 1))) (nI_add i 1) ?_
  refine va_sld hx hb hX hbl hbA hS (vp_in_nI (by omega) (by omega)) dL_law_2324 ?_
  refine k_foldi (y := p0) hp0 ?_
  refine lv_aload_n hx hb dL_law_2325 rfl (lv_at hl 1 rfl) ?_
  refine lv_iload hx hb dL_law_2326 (lv_at hl 5 rfl) ?_
  refine lv_iconst (v := (2 : Int32)) hx hb dL_law_2328 (by decide) ?_
  refine lv_iadd hx hb dL_law_2329 ?_
  refine k_foldi (y := (nI (i + 2))) (nI_add i 2) ?_
  refine va_sld hx hb hX hbl hbA hS (vp_in_nI (by omega) (by omega)) dL_law_2330 ?_
  refine k_foldi (y := p1) hp1 ?_
  refine lv_aload_n hx hb dL_law_2331 rfl (lv_at hl 1 rfl) ?_
  refine lv_iload hx hb dL_law_2332 (lv_at hl 5 rfl) ?_
  refine lv_iconst (v := (3 : Int32)) hx hb dL_law_2334 (by decide) ?_
  refine lv_iadd hx hb dL_law_2335 ?_
  refine k_foldi (y := (nI (i + 3))) (nI_add i 3) ?_
  refine va_sld hx hb hX hbl hbA hS (vp_in_nI (by omega) (by omega)) dL_law_2336 ?_
  refine k_foldi (y := p2) hp2 ?_
  refine lwWE (MC := 170) (MS := 4200) (wr := (wH G a o n9 sv9 S9)) (wd := (wM G bb T)) (as := [.int p0, .int p1, .int p2]) (rest := []) (cl := RX2) (Nat.le_of_ble_eq_true rfl) (Nat.le_of_ble_eq_true rfl) C (u_until l G bb T p0 p1 p2 (Rel.mo hR)) F_X2_until rfl bw1596 bw1597 bw1598 (hE.S hS hAB) hP hD hS hA hAB (rv4 hE.K (P_tl (wr := (wH G a o n9 sv9 S9)) hP) (q0 := 0) rfl) hl.1 dL_law_2337 ⟨(Nat.le_of_ble_eq_true rfl), (Nat.le_of_ble_eq_true rfl)⟩ rfl (Nat.le_of_ble_eq_true rfl) hf2 (fun r9 wd9 H locs hp9 hP hD hS => ?_)
  obtain ⟨⟨q9, rfl⟩, rfl⟩ := hp9
  refine W.eq (g2 := F0 m 2340 ls [.ref q9]) rfl ?_
  refine lv_astore (lv' := [(6, .ref q9), (5, .int c9), (0, .ref b9), (1, .ref (a 0)), (2, .ref (bb 0)), (3, .ref o), (4, .int (nI i))]) hx hb dL_law_2340 hl (Nat.le_of_ble_eq_true rfl) rfl (fun ls hl => ?_)
  refine lv_goto (tgt := 2412) hx hb dL_law_2342 (by decide) ?_
  refine W.widen (k := cells + 200) (n := slots + 5000) (by omega) (by omega) ?_
  exact kk n9 sv9 S9 (gX2_until T p0 p1 p2) _ _ ls (rel_until hR h9) hP hD hS (lv_sub hl [2, 3, 4, 5, 6] rfl)

