/-- what holds all through the law -/
def LW (p : Program) (l : Launch) (s : State) (m : MethodId) (meth : Method) (c : Code) (G : GT) (b9 L9 : Nat) (xs : Nat → Int32) : Prop :=
  CallFix p m c code 7 s #[Value.ref b9] BW R_law ∧ EV G s s.heap ∧ NE s ∧ va_X b9 L9 xs s s.heap ∧ b9 < s.heap.size ∧ l.stackTraces = false ∧ L9 ≤ 3072 ∧ (∀ q : Nat, s.heap.size ≤ q → (fun q : Nat => s.heap.size ≤ q) q) ∧ (∀ q : Nat, (fun q : Nat => s.heap.size ≤ q) q → gB G ≤ q) ∧ ¬ (fun q : Nat => s.heap.size ≤ q) b9
theorem P_hd {D : va_G} {w1 w2 : va_W} {H : Heap} (h : va_P D vwCl (w1 ++ w2) H) : va_P D vwCl w1 H := fun k q hk => h k q (by rw [List.getElem?_append_left (List.getElem?_eq_some_iff.mp hk).1]; exact hk)
theorem P_mid {D : va_G} {w1 s1 w2 s2 : va_W} {H : Heap} (h : va_P D vwCl ((w1 ++ s1) ++ (w2 ++ s2)) H) : va_P D vwCl (w1 ++ w2) H := va_P.app (P_hd (P_hd h)) (P_hd (P_tl h))
theorem D_hd {A : Nat → Prop} {w1 w2 : va_W} (h : va_D A (w1 ++ w2)) : va_D A w1 := ⟨fun i j p q hi hj e => h.1 i j p q (by rw [List.getElem?_append_left (List.getElem?_eq_some_iff.mp hi).1]; exact hi) (by rw [List.getElem?_append_left (List.getElem?_eq_some_iff.mp hj).1]; exact hj) e, fun k q hk => h.2 k q (by rw [List.getElem?_append_left (List.getElem?_eq_some_iff.mp hk).1]; exact hk)⟩
theorem D_in {A : Nat → Prop} {a b c : va_W} (h : va_D A (a ++ (b ++ c))) : va_D A (a ++ c) := by
  have h1 : va_D A (c ++ (a ++ b)) := D_swap (by rw [List.append_assoc]; exact h)
  rw [← List.append_assoc] at h1
  exact D_swap (D_hd h1)
theorem D_mid {A : Nat → Prop} {w1 s1 w2 s2 : va_W} (h : va_D A ((w1 ++ s1) ++ (w2 ++ s2))) : va_D A (w1 ++ w2) := by
  rw [← List.append_assoc] at h
  have h1 := D_hd h
  rw [List.append_assoc] at h1
  exact D_in h1

theorem lw_hf {cells slots : Nat} (hf : cells + 200 ≤ room_1.cells ∧ slots + 5000 ≤ room_1.slots) : (cells ≤ room_1.cells ∧ slots ≤ room_1.slots) ∧ (cells + 30 ≤ room_1.cells ∧ slots + 800 ≤ room_1.slots) ∧ (cells + 30 + 170 ≤ room_1.cells ∧ slots + 800 + 4200 ≤ room_1.slots) := ⟨⟨by omega, by omega⟩, ⟨by omega, by omega⟩, ⟨by omega, by omega⟩⟩
theorem lw_in {i L9 : Nat} (hi : i + 6 ≤ L9) (hL : L9 ≤ 3072) {k : Nat} (hk : Nat.ble (k + 1) 6 = true) : vp_in (nI (i + k)) L9 := vp_in_nI (by have := Nat.le_of_ble_eq_true hk; omega) (by omega)
set_option maxRecDepth 100000 in
set_option maxHeartbeats 4000000 in
theorem case_hand {p : Program} {l : Launch} {e : Env} {s : State} {m : MethodId} {below : List Frame} {meth : Method} {c : Code} {Q : State → Prop} {G : GT} {b9 L9 : Nat} {xs : Nat → Int32} {a bb : Nat → Nat} {o : Nat} (Z : LW p l s m meth c G b9 L9 xs) {i cells slots : Nat} (hi : i + 6 ≤ L9) (hf : cells + 200 ≤ room_1.cells ∧ slots + 5000 ≤ room_1.slots) {n : Int64} {sv : Value} {S : SX} {T : SM} (hR : Rel S T) {H : Heap} {locs : List Loc} {ls : Array Slot} (hP : va_P (gD G) vwCl (wM G bb T ++ wH G a o n sv S) H) (hD : va_D (fun q : Nat => s.heap.size ≤ q) (wM G bb T ++ wH G a o n sv S)) (hS : va_S (fun q : Nat => s.heap.size ≤ q) s.heap H locs) (hl : lv_has ls 7 [(0, .ref b9), (1, .ref (a 0)), (2, .ref (bb 0)), (3, .ref o), (4, .int (nI i))]) (kk : ∀ (n : Int64) (sv : Value) (S : SX) (T : SM) (H : Heap) (locs : List Loc) (ls : Array Slot), Rel S T → va_P (gD G) vwCl (wM G bb T ++ wH G a o n sv S) H → va_D (fun q : Nat => s.heap.size ≤ q) (wM G bb T ++ wH G a o n sv S) → va_S (fun q : Nat => s.heap.size ≤ q) s.heap H locs → lv_has ls 7 [(0, .ref b9), (1, .ref (a 0)), (2, .ref (bb 0)), (3, .ref o), (4, .int (nI i))] → W p l e room_1 s m #[Value.ref b9] below meth c H locs (cells + 200) (slots + 5000) Q (F0 m 3946 ls [])) : W p l e room_1 s m #[Value.ref b9] below meth c H locs (cells) (slots) Q (F0 m 284 ls []) := by
  obtain ⟨C, hE, hN, hX, hbl, hl9, hL9, hA, hAB, hbA⟩ := Z
  have hx := C.1
  have hb := C.2.1
  have hml := C.2.2.1
  have hown := C.2.2.2.1
  have hw := C.2.2.2.2
  obtain ⟨hf0, hf1, hf2⟩ := lw_hf hf
  have hf3 := hf2
  obtain ⟨p0, hp0⟩ : ∃ y : Int32, xs (nI (i + 1)).toNatClampNeg = y := ⟨_, rfl⟩
  obtain ⟨p1, hp1⟩ : ∃ y : Int32, xs (nI (i + 2)).toNatClampNeg = y := ⟨_, rfl⟩
  obtain ⟨p2, hp2⟩ : ∃ y : Int32, xs (nI (i + 3)).toNatClampNeg = y := ⟨_, rfl⟩
  obtain ⟨p3, hp3⟩ : ∃ y : Int32, xs (nI (i + 4)).toNatClampNeg = y := ⟨_, rfl⟩
  refine lv_aload_n hx hb dL_law_284 rfl (lv_at hl 1 rfl) ?_
  refine lv_aload_n hx hb dL_law_285 rfl (lv_at hl 0 rfl) ?_
  refine lv_iload hx hb dL_law_286 (lv_at hl 4 rfl) ?_
  refine lv_iconst (v := (1 : Int32)) hx hb dL_law_288 qi_1 ?_
  refine lv_iadd hx hb dL_law_289 ?_
  refine k_foldi (y := (nI (i + 1))) (nI_add i 1) ?_
  refine va_sld hx hb hX hbl hbA hS (lw_in hi hL9 rfl) dL_law_290 ?_
  refine k_foldi (y := p0) hp0 ?_
  refine lv_aload_n hx hb dL_law_291 rfl (lv_at hl 0 rfl) ?_
  refine lv_iload hx hb dL_law_292 (lv_at hl 4 rfl) ?_
  refine lv_iconst (v := (2 : Int32)) hx hb dL_law_294 qi_2 ?_
  refine lv_iadd hx hb dL_law_295 ?_
  refine k_foldi (y := (nI (i + 2))) (nI_add i 2) ?_
  refine va_sld hx hb hX hbl hbA hS (lw_in hi hL9 rfl) dL_law_296 ?_
  refine k_foldi (y := p1) hp1 ?_
  refine lv_aload_n hx hb dL_law_297 rfl (lv_at hl 0 rfl) ?_
  refine lv_iload hx hb dL_law_298 (lv_at hl 4 rfl) ?_
  refine lv_iconst (v := (3 : Int32)) hx hb dL_law_300 qi_3 ?_
  refine lv_iadd hx hb dL_law_301 ?_
  refine k_foldi (y := (nI (i + 3))) (nI_add i 3) ?_
  refine va_sld hx hb hX hbl hbA hS (lw_in hi hL9 rfl) dL_law_302 ?_
  refine k_foldi (y := p2) hp2 ?_
  refine lv_aload_n hx hb dL_law_303 rfl (lv_at hl 0 rfl) ?_
  refine lv_iload hx hb dL_law_304 (lv_at hl 4 rfl) ?_
  refine lv_iconst (v := (4 : Int32)) hx hb dL_law_306 qi_4 ?_
  refine lv_iadd hx hb dL_law_307 ?_
  refine k_foldi (y := (nI (i + 4))) (nI_add i 4) ?_
  refine va_sld hx hb hX hbl hbA hS (lw_in hi hL9 rfl) dL_law_308 ?_
  refine k_foldi (y := p3) hp3 ?_
  refine lv_aload_n hx hb dL_law_309 rfl (lv_at hl 3 rfl) ?_
  refine lwHelp (n := 6) (wr := (wM G bb T)) (wd := (wH G a o n sv S)) (as := [.ref (a 0), .int p0, .int p1, .int p2, .int p3, .ref o]) (rest := []) C (k_hand l hl9 G a o n sv S p0 p1 p2 p3) bw302 bw56 (by decide +kernel) rfl bw300 bw301 hN (hE.S hS hAB) hP hD hS hA hAB hl.1 dL_law_310 ⟨(Nat.le_of_ble_eq_true rfl), (Nat.le_of_ble_eq_true rfl)⟩ rfl (Nat.le_of_ble_eq_true rfl) hf1 (fun r9 wd9 H locs hp9 hP hD hS => ?_)
  obtain ⟨c9, n9, sv9, S9, rfl, rfl, h9⟩ := hp9
  refine W.eq (g2 := F0 m 313 ls [.int c9]) rfl ?_
  refine lv_istore (lv' := [(5, .int c9), (0, .ref b9), (1, .ref (a 0)), (2, .ref (bb 0)), (3, .ref o), (4, .int (nI i))]) hx hb dL_law_313 hl (Nat.le_of_ble_eq_true rfl) rfl (fun ls hl => ?_)
  refine lv_aload_n hx hb dL_law_315 rfl (lv_at hl 3 rfl) ?_
  refine lv_aload_n hx hb dL_law_316 rfl (lv_at hl 1 rfl) ?_
  refine lv_iload hx hb dL_law_317 (lv_at hl 5 rfl) ?_
  refine lv_iconst (v := (1 : Int32)) hx hb dL_law_319 qi_1 ?_
  refine lv_iadd hx hb dL_law_320 ?_
  refine k_foldi (y := (nI (i + 1))) (nI_add i 1) ?_
  refine va_sld hx hb hX hbl hbA hS (lw_in hi hL9 rfl) dL_law_321 ?_
  refine k_foldi (y := p0) hp0 ?_
  refine lv_aload_n hx hb dL_law_322 rfl (lv_at hl 1 rfl) ?_
  refine lv_iload hx hb dL_law_323 (lv_at hl 5 rfl) ?_
  refine lv_iconst (v := (2 : Int32)) hx hb dL_law_325 qi_2 ?_
  refine lv_iadd hx hb dL_law_326 ?_
  refine k_foldi (y := (nI (i + 2))) (nI_add i 2) ?_
  refine va_sld hx hb hX hbl hbA hS (lw_in hi hL9 rfl) dL_law_327 ?_
  refine k_foldi (y := p1) hp1 ?_
  refine lv_aload_n hx hb dL_law_328 rfl (lv_at hl 1 rfl) ?_
  refine lv_iload hx hb dL_law_329 (lv_at hl 5 rfl) ?_
  refine lv_iconst (v := (3 : Int32)) hx hb dL_law_331 qi_3 ?_
  refine lv_iadd hx hb dL_law_332 ?_
  refine k_foldi (y := (nI (i + 3))) (nI_add i 3) ?_
  refine va_sld hx hb hX hbl hbA hS (lw_in hi hL9 rfl) dL_law_333 ?_
  refine k_foldi (y := p2) hp2 ?_
  refine lv_aload_n hx hb dL_law_334 rfl (lv_at hl 1 rfl) ?_
  refine lv_iload hx hb dL_law_335 (lv_at hl 5 rfl) ?_
  refine lv_iconst (v := (4 : Int32)) hx hb dL_law_337 qi_4 ?_
  refine lv_iadd hx hb dL_law_338 ?_
  refine k_foldi (y := (nI (i + 4))) (nI_add i 4) ?_
  refine va_sld hx hb hX hbl hbA hS (lw_in hi hL9 rfl) dL_law_339 ?_
  refine k_foldi (y := p3) hp3 ?_
  refine lwWR (MC := 170) (MS := 4200) (st1 := [.int ((gX2_hand T p0 p1 p2 p3).1)]) (wr := (wH G a o n9 sv9 S9)) (wd := (wM G bb T)) (as := [.int p0, .int p1, .int p2, .int p3]) (rest := []) (cl := RX2) (Nat.le_of_ble_eq_true rfl) (Nat.le_of_ble_eq_true rfl) C (c_X2_hand l G bb T p0 p1 p2 p3 (Rel.mo hR)) F_X2_hand rfl bw1204 bw1205 bw1206 (hE.S hS hAB) hP hD hS hA hAB (rv4 hE.K (P_tl (wr := (wH G a o n9 sv9 S9)) hP) (q0 := 0) rfl) hl.1 dL_law_340 ⟨(Nat.le_of_ble_eq_true rfl), (Nat.le_of_ble_eq_true rfl)⟩ rfl (Nat.le_of_ble_eq_true rfl) hf2 rfl (fun H locs hP hD hS => ?_)
  have hc9 := cmp_hand hR h9
  refine lv_istore (lv' := [(6, .int ((gX2_hand T p0 p1 p2 p3).1)), (5, .int c9), (0, .ref b9), (1, .ref (a 0)), (2, .ref (bb 0)), (3, .ref o), (4, .int (nI i))]) hx hb dL_law_343 hl (Nat.le_of_ble_eq_true rfl) rfl (fun ls hl => ?_)
  refine lv_aload_n hx hb dL_law_345 rfl (lv_at hl 4 rfl) ?_
  refine rcVf (st1 := [.int (fX2_thrown ((gX2_hand T p0 p1 p2 p3).2))]) (as := []) (rest := []) (cl := RX2) C (c_X2_thrown l G bb ((gX2_hand T p0 p1 p2 p3).2)) F_X2_thrown rfl bw1200 bw1201 (hw _ bw1202) (hE.S hS hAB) (P_hd hP) (rv4 hE.K (P_hd hP) (q0 := 0) rfl) hl.1 dL_law_346 ⟨Nat.le_of_ble_eq_true rfl, Nat.le_of_ble_eq_true rfl⟩ rfl (Nat.le_of_ble_eq_true rfl) hf3 rfl ?_
  refine k_foldi (y := c9) hc9.1 ?_
  refine lv_iload hx hb dL_law_349 (lv_at hl 1 rfl) ?_
  refine lv_icmp_eq (tgt := 356) hx hb dL_law_351 (by decide) (fun _ => ?_) (fun c_x => absurd rfl c_x)
  refine lv_iload hx hb dL_law_356 (lv_at hl 1 rfl) ?_
  refine lv_if_ne (tgt := 374) hx hb dL_law_358 (by decide) (fun c_1 => ?_) (fun c_1 => ?_)
  · refine lv_goto (tgt := 3946) hx hb dL_law_374 (by decide) ?_
    refine W.widen (k := cells + 200) (n := slots + 5000) (by first | exact Nat.le_of_eq (Nat.add_assoc _ _ _) | omega) (by first | exact Nat.le_of_eq (Nat.add_assoc _ _ _) | omega) ?_
    exact kk n9 sv9 S9 ((gX2_hand T p0 p1 p2 p3).2) _ _ ls (rel_hand hR h9) hP hD hS (lv_sub hl [2, 3, 4, 5, 6] rfl)
  · refine lv_aload_n hx hb dL_law_361 rfl (lv_at hl 5 rfl) ?_
    refine va_getN (D := gD G) (cl := vwCl) (tys := gT G) (ci := 3) (v := .long n9) (C := RX1) (T := TX1) (N := 2) hx hb hw inB_X1 hown hE.K hP 5 rfl rfl 0 (by decide) (va_Nw.use rfl hN.2.1) (fun _ h9 => h9) rfl dL_law_362 ?_
    refine lv_iload hx hb dL_law_365 (lv_at hl 0 rfl) ?_
    refine lv_i2l (v := (((gX2_hand T p0 p1 p2 p3).1).toInt64)) hx hb dL_law_367 (by first | rfl | decide) ?_
    refine W.lcmp hx hb dL_law_368 ?_
    refine lv_if_eq (tgt := 374) hx hb dL_law_369 (by decide) (fun _ => ?_) (fun c_x => absurd (lgc_eq.mpr (by rw [hc9.2 c_1])) c_x)
    refine lv_goto (tgt := 3946) hx hb dL_law_374 (by decide) ?_
    refine W.widen (k := cells + 200) (n := slots + 5000) (by first | exact Nat.le_of_eq (Nat.add_assoc _ _ _) | omega) (by first | exact Nat.le_of_eq (Nat.add_assoc _ _ _) | omega) ?_
    exact kk n9 sv9 S9 ((gX2_hand T p0 p1 p2 p3).2) _ _ ls (rel_hand hR h9) hP hD hS (lv_sub hl [2, 3, 4, 5, 6] rfl)

set_option maxRecDepth 100000 in
set_option maxHeartbeats 4000000 in
theorem case_of {p : Program} {l : Launch} {e : Env} {s : State} {m : MethodId} {below : List Frame} {meth : Method} {c : Code} {Q : State → Prop} {G : GT} {b9 L9 : Nat} {xs : Nat → Int32} {a bb : Nat → Nat} {o : Nat} (Z : LW p l s m meth c G b9 L9 xs) {i cells slots : Nat} (hi : i + 6 ≤ L9) (hf : cells + 200 ≤ room_1.cells ∧ slots + 5000 ≤ room_1.slots) {n : Int64} {sv : Value} {S : SX} {T : SM} (hR : Rel S T) {H : Heap} {locs : List Loc} {ls : Array Slot} (hP : va_P (gD G) vwCl (wM G bb T ++ wH G a o n sv S) H) (hD : va_D (fun q : Nat => s.heap.size ≤ q) (wM G bb T ++ wH G a o n sv S)) (hS : va_S (fun q : Nat => s.heap.size ≤ q) s.heap H locs) (hl : lv_has ls 7 [(0, .ref b9), (1, .ref (a 0)), (2, .ref (bb 0)), (3, .ref o), (4, .int (nI i))]) (kk : ∀ (n : Int64) (sv : Value) (S : SX) (T : SM) (H : Heap) (locs : List Loc) (ls : Array Slot), Rel S T → va_P (gD G) vwCl (wM G bb T ++ wH G a o n sv S) H → va_D (fun q : Nat => s.heap.size ≤ q) (wM G bb T ++ wH G a o n sv S) → va_S (fun q : Nat => s.heap.size ≤ q) s.heap H locs → lv_has ls 7 [(0, .ref b9), (1, .ref (a 0)), (2, .ref (bb 0)), (3, .ref o), (4, .int (nI i))] → W p l e room_1 s m #[Value.ref b9] below meth c H locs (cells + 200) (slots + 5000) Q (F0 m 3946 ls [])) : W p l e room_1 s m #[Value.ref b9] below meth c H locs (cells) (slots) Q (F0 m 377 ls []) := by
  obtain ⟨C, hE, hN, hX, hbl, hl9, hL9, hA, hAB, hbA⟩ := Z
  have hx := C.1
  have hb := C.2.1
  have hml := C.2.2.1
  have hown := C.2.2.2.1
  have hw := C.2.2.2.2
  obtain ⟨hf0, hf1, hf2⟩ := lw_hf hf
  have hf3 := hf2
  obtain ⟨p0, hp0⟩ : ∃ y : Int32, xs (nI (i + 1)).toNatClampNeg = y := ⟨_, rfl⟩
  obtain ⟨p1, hp1⟩ : ∃ y : Int32, xs (nI (i + 2)).toNatClampNeg = y := ⟨_, rfl⟩
  obtain ⟨p2, hp2⟩ : ∃ y : Int32, xs (nI (i + 3)).toNatClampNeg = y := ⟨_, rfl⟩
  obtain ⟨p3, hp3⟩ : ∃ y : Int32, xs (nI (i + 4)).toNatClampNeg = y := ⟨_, rfl⟩
  obtain ⟨p4, hp4⟩ : ∃ y : Int32, xs (nI (i + 5)).toNatClampNeg = y := ⟨_, rfl⟩
  refine lv_aload_n hx hb dL_law_377 rfl (lv_at hl 1 rfl) ?_
  refine lv_aload_n hx hb dL_law_378 rfl (lv_at hl 0 rfl) ?_
  refine lv_iload hx hb dL_law_379 (lv_at hl 4 rfl) ?_
  refine lv_iconst (v := (1 : Int32)) hx hb dL_law_381 qi_1 ?_
  refine lv_iadd hx hb dL_law_382 ?_
  refine k_foldi (y := (nI (i + 1))) (nI_add i 1) ?_
  refine va_sld hx hb hX hbl hbA hS (lw_in hi hL9 rfl) dL_law_383 ?_
  refine k_foldi (y := p0) hp0 ?_
  refine lv_aload_n hx hb dL_law_384 rfl (lv_at hl 0 rfl) ?_
  refine lv_iload hx hb dL_law_385 (lv_at hl 4 rfl) ?_
  refine lv_iconst (v := (2 : Int32)) hx hb dL_law_387 qi_2 ?_
  refine lv_iadd hx hb dL_law_388 ?_
  refine k_foldi (y := (nI (i + 2))) (nI_add i 2) ?_
  refine va_sld hx hb hX hbl hbA hS (lw_in hi hL9 rfl) dL_law_389 ?_
  refine k_foldi (y := p1) hp1 ?_
  refine lv_aload_n hx hb dL_law_390 rfl (lv_at hl 0 rfl) ?_
  refine lv_iload hx hb dL_law_391 (lv_at hl 4 rfl) ?_
  refine lv_iconst (v := (3 : Int32)) hx hb dL_law_393 qi_3 ?_
  refine lv_iadd hx hb dL_law_394 ?_
  refine k_foldi (y := (nI (i + 3))) (nI_add i 3) ?_
  refine va_sld hx hb hX hbl hbA hS (lw_in hi hL9 rfl) dL_law_395 ?_
  refine k_foldi (y := p2) hp2 ?_
  refine lv_aload_n hx hb dL_law_396 rfl (lv_at hl 0 rfl) ?_
  refine lv_iload hx hb dL_law_397 (lv_at hl 4 rfl) ?_
  refine lv_iconst (v := (4 : Int32)) hx hb dL_law_399 qi_4 ?_
  refine lv_iadd hx hb dL_law_400 ?_
  refine k_foldi (y := (nI (i + 4))) (nI_add i 4) ?_
  refine va_sld hx hb hX hbl hbA hS (lw_in hi hL9 rfl) dL_law_401 ?_
  refine k_foldi (y := p3) hp3 ?_
  refine lv_aload_n hx hb dL_law_402 rfl (lv_at hl 0 rfl) ?_
  refine lv_iload hx hb dL_law_403 (lv_at hl 4 rfl) ?_
  refine lv_iconst (v := (5 : Int32)) hx hb dL_law_405 qi_5 ?_
  refine lv_iadd hx hb dL_law_406 ?_
  refine k_foldi (y := (nI (i + 5))) (nI_add i 5) ?_
  refine va_sld hx hb hX hbl hbA hS (lw_in hi hL9 rfl) dL_law_407 ?_
  refine k_foldi (y := p4) hp4 ?_
  refine lv_aload_n hx hb dL_law_408 rfl (lv_at hl 3 rfl) ?_
  refine lwHelp (n := 7) (wr := (wM G bb T)) (wd := (wH G a o n sv S)) (as := [.ref (a 0), .int p0, .int p1, .int p2, .int p3, .int p4, .ref o]) (rest := []) C (k_of l hl9 G a o n sv S p0 p1 p2 p3 p4) bw381 bw56 (by decide +kernel) rfl bw379 bw380 hN (hE.S hS hAB) hP hD hS hA hAB hl.1 dL_law_409 ⟨(Nat.le_of_ble_eq_true rfl), (Nat.le_of_ble_eq_true rfl)⟩ rfl (Nat.le_of_ble_eq_true rfl) hf1 (fun r9 wd9 H locs hp9 hP hD hS => ?_)
  obtain ⟨c9, n9, sv9, S9, rfl, rfl, h9⟩ := hp9
  refine W.eq (g2 := F0 m 412 ls [.int c9]) rfl ?_
  refine lv_istore (lv' := [(5, .int c9), (0, .ref b9), (1, .ref (a 0)), (2, .ref (bb 0)), (3, .ref o), (4, .int (nI i))]) hx hb dL_law_412 hl (Nat.le_of_ble_eq_true rfl) rfl (fun ls hl => ?_)
  refine lv_aload_n hx hb dL_law_414 rfl (lv_at hl 3 rfl) ?_
  refine lv_aload_n hx hb dL_law_415 rfl (lv_at hl 1 rfl) ?_
  refine lv_iload hx hb dL_law_416 (lv_at hl 5 rfl) ?_
  refine lv_iconst (v := (1 : Int32)) hx hb dL_law_418 qi_1 ?_
  refine lv_iadd hx hb dL_law_419 ?_
  refine k_foldi (y := (nI (i + 1))) (nI_add i 1) ?_
  refine va_sld hx hb hX hbl hbA hS (lw_in hi hL9 rfl) dL_law_420 ?_
  refine k_foldi (y := p0) hp0 ?_
  refine lv_aload_n hx hb dL_law_421 rfl (lv_at hl 1 rfl) ?_
  refine lv_iload hx hb dL_law_422 (lv_at hl 5 rfl) ?_
  refine lv_iconst (v := (2 : Int32)) hx hb dL_law_424 qi_2 ?_
  refine lv_iadd hx hb dL_law_425 ?_
  refine k_foldi (y := (nI (i + 2))) (nI_add i 2) ?_
  refine va_sld hx hb hX hbl hbA hS (lw_in hi hL9 rfl) dL_law_426 ?_
  refine k_foldi (y := p1) hp1 ?_
  refine lv_aload_n hx hb dL_law_427 rfl (lv_at hl 1 rfl) ?_
  refine lv_iload hx hb dL_law_428 (lv_at hl 5 rfl) ?_
  refine lv_iconst (v := (3 : Int32)) hx hb dL_law_430 qi_3 ?_
  refine lv_iadd hx hb dL_law_431 ?_
  refine k_foldi (y := (nI (i + 3))) (nI_add i 3) ?_
  refine va_sld hx hb hX hbl hbA hS (lw_in hi hL9 rfl) dL_law_432 ?_
  refine k_foldi (y := p2) hp2 ?_
  refine lv_aload_n hx hb dL_law_433 rfl (lv_at hl 1 rfl) ?_
  refine lv_iload hx hb dL_law_434 (lv_at hl 5 rfl) ?_
  refine lv_iconst (v := (4 : Int32)) hx hb dL_law_436 qi_4 ?_
  refine lv_iadd hx hb dL_law_437 ?_
  refine k_foldi (y := (nI (i + 4))) (nI_add i 4) ?_
  refine va_sld hx hb hX hbl hbA hS (lw_in hi hL9 rfl) dL_law_438 ?_
  refine k_foldi (y := p3) hp3 ?_
  refine lv_aload_n hx hb dL_law_439 rfl (lv_at hl 1 rfl) ?_
  refine lv_iload hx hb dL_law_440 (lv_at hl 5 rfl) ?_
  refine lv_iconst (v := (5 : Int32)) hx hb dL_law_442 qi_5 ?_
  refine lv_iadd hx hb dL_law_443 ?_
  refine k_foldi (y := (nI (i + 5))) (nI_add i 5) ?_
  refine va_sld hx hb hX hbl hbA hS (lw_in hi hL9 rfl) dL_law_444 ?_
  refine k_foldi (y := p4) hp4 ?_
  refine lwWR (MC := 170) (MS := 4200) (st1 := [.int ((gX2_of T p0 p1 p2 p3 p4).1)]) (wr := (wH G a o n9 sv9 S9)) (wd := (wM G bb T)) (as := [.int p0, .int p1, .int p2, .int p3, .int p4]) (rest := []) (cl := RX2) (Nat.le_of_ble_eq_true rfl) (Nat.le_of_ble_eq_true rfl) C (c_X2_of l G bb T p0 p1 p2 p3 p4 (Rel.mo hR)) F_X2_of rfl bw1212 bw1213 bw1214 (hE.S hS hAB) hP hD hS hA hAB (rv4 hE.K (P_tl (wr := (wH G a o n9 sv9 S9)) hP) (q0 := 0) rfl) hl.1 dL_law_445 ⟨(Nat.le_of_ble_eq_true rfl), (Nat.le_of_ble_eq_true rfl)⟩ rfl (Nat.le_of_ble_eq_true rfl) hf2 rfl (fun H locs hP hD hS => ?_)
  have hc9 := cmp_of hR h9
  refine lv_istore (lv' := [(6, .int ((gX2_of T p0 p1 p2 p3 p4).1)), (5, .int c9), (0, .ref b9), (1, .ref (a 0)), (2, .ref (bb 0)), (3, .ref o), (4, .int (nI i))]) hx hb dL_law_448 hl (Nat.le_of_ble_eq_true rfl) rfl (fun ls hl => ?_)
  refine lv_aload_n hx hb dL_law_450 rfl (lv_at hl 4 rfl) ?_
  refine rcVf (st1 := [.int (fX2_thrown ((gX2_of T p0 p1 p2 p3 p4).2))]) (as := []) (rest := []) (cl := RX2) C (c_X2_thrown l G bb ((gX2_of T p0 p1 p2 p3 p4).2)) F_X2_thrown rfl bw1200 bw1201 (hw _ bw1202) (hE.S hS hAB) (P_hd hP) (rv4 hE.K (P_hd hP) (q0 := 0) rfl) hl.1 dL_law_451 ⟨Nat.le_of_ble_eq_true rfl, Nat.le_of_ble_eq_true rfl⟩ rfl (Nat.le_of_ble_eq_true rfl) hf3 rfl ?_
  refine k_foldi (y := c9) hc9.1 ?_
  refine lv_iload hx hb dL_law_454 (lv_at hl 1 rfl) ?_
  refine lv_icmp_eq (tgt := 461) hx hb dL_law_456 (by decide) (fun _ => ?_) (fun c_x => absurd rfl c_x)
  refine lv_iload hx hb dL_law_461 (lv_at hl 1 rfl) ?_
  refine lv_if_ne (tgt := 479) hx hb dL_law_463 (by decide) (fun c_1 => ?_) (fun c_1 => ?_)
  · refine lv_goto (tgt := 3946) hx hb dL_law_479 (by decide) ?_
    refine W.widen (k := cells + 200) (n := slots + 5000) (by first | exact Nat.le_of_eq (Nat.add_assoc _ _ _) | omega) (by first | exact Nat.le_of_eq (Nat.add_assoc _ _ _) | omega) ?_
    exact kk n9 sv9 S9 ((gX2_of T p0 p1 p2 p3 p4).2) _ _ ls (rel_of hR h9) hP hD hS (lv_sub hl [2, 3, 4, 5, 6] rfl)
  · refine lv_aload_n hx hb dL_law_466 rfl (lv_at hl 5 rfl) ?_
    refine va_getN (D := gD G) (cl := vwCl) (tys := gT G) (ci := 3) (v := .long n9) (C := RX1) (T := TX1) (N := 2) hx hb hw inB_X1 hown hE.K hP 5 rfl rfl 0 (by decide) (va_Nw.use rfl hN.2.1) (fun _ h9 => h9) rfl dL_law_467 ?_
    refine lv_iload hx hb dL_law_470 (lv_at hl 0 rfl) ?_
    refine lv_i2l (v := (((gX2_of T p0 p1 p2 p3 p4).1).toInt64)) hx hb dL_law_472 (by first | rfl | decide) ?_
    refine W.lcmp hx hb dL_law_473 ?_
    refine lv_if_eq (tgt := 479) hx hb dL_law_474 (by decide) (fun _ => ?_) (fun c_x => absurd (lgc_eq.mpr (by rw [hc9.2 c_1])) c_x)
    refine lv_goto (tgt := 3946) hx hb dL_law_479 (by decide) ?_
    refine W.widen (k := cells + 200) (n := slots + 5000) (by first | exact Nat.le_of_eq (Nat.add_assoc _ _ _) | omega) (by first | exact Nat.le_of_eq (Nat.add_assoc _ _ _) | omega) ?_
    exact kk n9 sv9 S9 ((gX2_of T p0 p1 p2 p3 p4).2) _ _ ls (rel_of hR h9) hP hD hS (lv_sub hl [2, 3, 4, 5, 6] rfl)

set_option maxRecDepth 100000 in
set_option maxHeartbeats 4000000 in
theorem case_ofDay {p : Program} {l : Launch} {e : Env} {s : State} {m : MethodId} {below : List Frame} {meth : Method} {c : Code} {Q : State → Prop} {G : GT} {b9 L9 : Nat} {xs : Nat → Int32} {a bb : Nat → Nat} {o : Nat} (Z : LW p l s m meth c G b9 L9 xs) {i cells slots : Nat} (hi : i + 6 ≤ L9) (hf : cells + 200 ≤ room_1.cells ∧ slots + 5000 ≤ room_1.slots) {n : Int64} {sv : Value} {S : SX} {T : SM} (hR : Rel S T) {H : Heap} {locs : List Loc} {ls : Array Slot} (hP : va_P (gD G) vwCl (wM G bb T ++ wH G a o n sv S) H) (hD : va_D (fun q : Nat => s.heap.size ≤ q) (wM G bb T ++ wH G a o n sv S)) (hS : va_S (fun q : Nat => s.heap.size ≤ q) s.heap H locs) (hl : lv_has ls 7 [(0, .ref b9), (1, .ref (a 0)), (2, .ref (bb 0)), (3, .ref o), (4, .int (nI i))]) (kk : ∀ (n : Int64) (sv : Value) (S : SX) (T : SM) (H : Heap) (locs : List Loc) (ls : Array Slot), Rel S T → va_P (gD G) vwCl (wM G bb T ++ wH G a o n sv S) H → va_D (fun q : Nat => s.heap.size ≤ q) (wM G bb T ++ wH G a o n sv S) → va_S (fun q : Nat => s.heap.size ≤ q) s.heap H locs → lv_has ls 7 [(0, .ref b9), (1, .ref (a 0)), (2, .ref (bb 0)), (3, .ref o), (4, .int (nI i))] → W p l e room_1 s m #[Value.ref b9] below meth c H locs (cells + 200) (slots + 5000) Q (F0 m 3946 ls [])) : W p l e room_1 s m #[Value.ref b9] below meth c H locs (cells) (slots) Q (F0 m 482 ls []) := by
  obtain ⟨C, hE, hN, hX, hbl, hl9, hL9, hA, hAB, hbA⟩ := Z
  have hx := C.1
  have hb := C.2.1
  have hml := C.2.2.1
  have hown := C.2.2.2.1
  have hw := C.2.2.2.2
  obtain ⟨hf0, hf1, hf2⟩ := lw_hf hf
  have hf3 := hf2
  obtain ⟨p0, hp0⟩ : ∃ y : Int32, xs (nI (i + 1)).toNatClampNeg = y := ⟨_, rfl⟩
  obtain ⟨p1, hp1⟩ : ∃ y : Int32, xs (nI (i + 2)).toNatClampNeg = y := ⟨_, rfl⟩
  refine lv_aload_n hx hb dL_law_482 rfl (lv_at hl 1 rfl) ?_
  refine lv_aload_n hx hb dL_law_483 rfl (lv_at hl 0 rfl) ?_
  refine lv_iload hx hb dL_law_484 (lv_at hl 4 rfl) ?_
  refine lv_iconst (v := (1 : Int32)) hx hb dL_law_486 qi_1 ?_
  refine lv_iadd hx hb dL_law_487 ?_
  refine k_foldi (y := (nI (i + 1))) (nI_add i 1) ?_
  refine va_sld hx hb hX hbl hbA hS (lw_in hi hL9 rfl) dL_law_488 ?_
  refine k_foldi (y := p0) hp0 ?_
  refine lv_aload_n hx hb dL_law_489 rfl (lv_at hl 0 rfl) ?_
  refine lv_iload hx hb dL_law_490 (lv_at hl 4 rfl) ?_
  refine lv_iconst (v := (2 : Int32)) hx hb dL_law_492 qi_2 ?_
  refine lv_iadd hx hb dL_law_493 ?_
  refine k_foldi (y := (nI (i + 2))) (nI_add i 2) ?_
  refine va_sld hx hb hX hbl hbA hS (lw_in hi hL9 rfl) dL_law_494 ?_
  refine k_foldi (y := p1) hp1 ?_
  refine lv_aload_n hx hb dL_law_495 rfl (lv_at hl 3 rfl) ?_
  refine lwHelp (n := 4) (wr := (wM G bb T)) (wd := (wH G a o n sv S)) (as := [.ref (a 0), .int p0, .int p1, .ref o]) (rest := []) C (k_ofDay l hl9 G a o n sv S p0 p1) bw420 bw56 (by decide +kernel) rfl bw418 bw419 hN (hE.S hS hAB) hP hD hS hA hAB hl.1 dL_law_496 ⟨(Nat.le_of_ble_eq_true rfl), (Nat.le_of_ble_eq_true rfl)⟩ rfl (Nat.le_of_ble_eq_true rfl) hf1 (fun r9 wd9 H locs hp9 hP hD hS => ?_)
  obtain ⟨c9, n9, sv9, S9, rfl, rfl, h9⟩ := hp9
  refine W.eq (g2 := F0 m 499 ls [.int c9]) rfl ?_
  refine lv_istore (lv' := [(5, .int c9), (0, .ref b9), (1, .ref (a 0)), (2, .ref (bb 0)), (3, .ref o), (4, .int (nI i))]) hx hb dL_law_499 hl (Nat.le_of_ble_eq_true rfl) rfl (fun ls hl => ?_)
  refine lv_aload_n hx hb dL_law_501 rfl (lv_at hl 3 rfl) ?_
  refine lv_aload_n hx hb dL_law_502 rfl (lv_at hl 1 rfl) ?_
  refine lv_iload hx hb dL_law_503 (lv_at hl 5 rfl) ?_
  refine lv_iconst (v := (1 : Int32)) hx hb dL_law_505 qi_1 ?_
  refine lv_iadd hx hb dL_law_506 ?_
  refine k_foldi (y := (nI (i + 1))) (nI_add i 1) ?_
  refine va_sld hx hb hX hbl hbA hS (lw_in hi hL9 rfl) dL_law_507 ?_
  refine k_foldi (y := p0) hp0 ?_
  refine lv_aload_n hx hb dL_law_508 rfl (lv_at hl 1 rfl) ?_
  refine lv_iload hx hb dL_law_509 (lv_at hl 5 rfl) ?_
  refine lv_iconst (v := (2 : Int32)) hx hb dL_law_511 qi_2 ?_
  refine lv_iadd hx hb dL_law_512 ?_
  refine k_foldi (y := (nI (i + 2))) (nI_add i 2) ?_
  refine va_sld hx hb hX hbl hbA hS (lw_in hi hL9 rfl) dL_law_513 ?_
  refine k_foldi (y := p1) hp1 ?_
  refine lwWR (MC := 170) (MS := 4200) (st1 := [.int ((gX2_ofDay T p0 p1).1)]) (wr := (wH G a o n9 sv9 S9)) (wd := (wM G bb T)) (as := [.int p0, .int p1]) (rest := []) (cl := RX2) (Nat.le_of_ble_eq_true rfl) (Nat.le_of_ble_eq_true rfl) C (c_X2_ofDay l G bb T p0 p1 (Rel.mo hR)) F_X2_ofDay rfl bw1275 bw1276 bw1277 (hE.S hS hAB) hP hD hS hA hAB (rv4 hE.K (P_tl (wr := (wH G a o n9 sv9 S9)) hP) (q0 := 0) rfl) hl.1 dL_law_514 ⟨(Nat.le_of_ble_eq_true rfl), (Nat.le_of_ble_eq_true rfl)⟩ rfl (Nat.le_of_ble_eq_true rfl) hf2 rfl (fun H locs hP hD hS => ?_)
  have hc9 := cmp_ofDay hR h9
  refine lv_istore (lv' := [(6, .int ((gX2_ofDay T p0 p1).1)), (5, .int c9), (0, .ref b9), (1, .ref (a 0)), (2, .ref (bb 0)), (3, .ref o), (4, .int (nI i))]) hx hb dL_law_517 hl (Nat.le_of_ble_eq_true rfl) rfl (fun ls hl => ?_)
  refine lv_aload_n hx hb dL_law_519 rfl (lv_at hl 4 rfl) ?_
  refine rcVf (st1 := [.int (fX2_thrown ((gX2_ofDay T p0 p1).2))]) (as := []) (rest := []) (cl := RX2) C (c_X2_thrown l G bb ((gX2_ofDay T p0 p1).2)) F_X2_thrown rfl bw1200 bw1201 (hw _ bw1202) (hE.S hS hAB) (P_hd hP) (rv4 hE.K (P_hd hP) (q0 := 0) rfl) hl.1 dL_law_520 ⟨Nat.le_of_ble_eq_true rfl, Nat.le_of_ble_eq_true rfl⟩ rfl (Nat.le_of_ble_eq_true rfl) hf3 rfl ?_
  refine k_foldi (y := c9) hc9.1 ?_
  refine lv_iload hx hb dL_law_523 (lv_at hl 1 rfl) ?_
  refine lv_icmp_eq (tgt := 530) hx hb dL_law_525 (by decide) (fun _ => ?_) (fun c_x => absurd rfl c_x)
  refine lv_iload hx hb dL_law_530 (lv_at hl 1 rfl) ?_
  refine lv_if_ne (tgt := 548) hx hb dL_law_532 (by decide) (fun c_1 => ?_) (fun c_1 => ?_)
  · refine lv_goto (tgt := 3946) hx hb dL_law_548 (by decide) ?_
    refine W.widen (k := cells + 200) (n := slots + 5000) (by first | exact Nat.le_of_eq (Nat.add_assoc _ _ _) | omega) (by first | exact Nat.le_of_eq (Nat.add_assoc _ _ _) | omega) ?_
    exact kk n9 sv9 S9 ((gX2_ofDay T p0 p1).2) _ _ ls (rel_ofDay hR h9) hP hD hS (lv_sub hl [2, 3, 4, 5, 6] rfl)
  · refine lv_aload_n hx hb dL_law_535 rfl (lv_at hl 5 rfl) ?_
    refine va_getN (D := gD G) (cl := vwCl) (tys := gT G) (ci := 3) (v := .long n9) (C := RX1) (T := TX1) (N := 2) hx hb hw inB_X1 hown hE.K hP 5 rfl rfl 0 (by decide) (va_Nw.use rfl hN.2.1) (fun _ h9 => h9) rfl dL_law_536 ?_
    refine lv_iload hx hb dL_law_539 (lv_at hl 0 rfl) ?_
    refine lv_i2l (v := (((gX2_ofDay T p0 p1).1).toInt64)) hx hb dL_law_541 (by first | rfl | decide) ?_
    refine W.lcmp hx hb dL_law_542 ?_
    refine lv_if_eq (tgt := 548) hx hb dL_law_543 (by decide) (fun _ => ?_) (fun c_x => absurd (lgc_eq.mpr (by rw [hc9.2 c_1])) c_x)
    refine lv_goto (tgt := 3946) hx hb dL_law_548 (by decide) ?_
    refine W.widen (k := cells + 200) (n := slots + 5000) (by first | exact Nat.le_of_eq (Nat.add_assoc _ _ _) | omega) (by first | exact Nat.le_of_eq (Nat.add_assoc _ _ _) | omega) ?_
    exact kk n9 sv9 S9 ((gX2_ofDay T p0 p1).2) _ _ ls (rel_ofDay hR h9) hP hD hS (lv_sub hl [2, 3, 4, 5, 6] rfl)

set_option maxRecDepth 100000 in
set_option maxHeartbeats 4000000 in
theorem case_copy {p : Program} {l : Launch} {e : Env} {s : State} {m : MethodId} {below : List Frame} {meth : Method} {c : Code} {Q : State → Prop} {G : GT} {b9 L9 : Nat} {xs : Nat → Int32} {a bb : Nat → Nat} {o : Nat} (Z : LW p l s m meth c G b9 L9 xs) {i cells slots : Nat} (hi : i + 6 ≤ L9) (hf : cells + 200 ≤ room_1.cells ∧ slots + 5000 ≤ room_1.slots) {n : Int64} {sv : Value} {S : SX} {T : SM} (hR : Rel S T) {H : Heap} {locs : List Loc} {ls : Array Slot} (hP : va_P (gD G) vwCl (wM G bb T ++ wH G a o n sv S) H) (hD : va_D (fun q : Nat => s.heap.size ≤ q) (wM G bb T ++ wH G a o n sv S)) (hS : va_S (fun q : Nat => s.heap.size ≤ q) s.heap H locs) (hl : lv_has ls 7 [(0, .ref b9), (1, .ref (a 0)), (2, .ref (bb 0)), (3, .ref o), (4, .int (nI i))]) (kk : ∀ (n : Int64) (sv : Value) (S : SX) (T : SM) (H : Heap) (locs : List Loc) (ls : Array Slot), Rel S T → va_P (gD G) vwCl (wM G bb T ++ wH G a o n sv S) H → va_D (fun q : Nat => s.heap.size ≤ q) (wM G bb T ++ wH G a o n sv S) → va_S (fun q : Nat => s.heap.size ≤ q) s.heap H locs → lv_has ls 7 [(0, .ref b9), (1, .ref (a 0)), (2, .ref (bb 0)), (3, .ref o), (4, .int (nI i))] → W p l e room_1 s m #[Value.ref b9] below meth c H locs (cells + 200) (slots + 5000) Q (F0 m 3946 ls [])) : W p l e room_1 s m #[Value.ref b9] below meth c H locs (cells) (slots) Q (F0 m 551 ls []) := by
  obtain ⟨C, hE, hN, hX, hbl, hl9, hL9, hA, hAB, hbA⟩ := Z
  have hx := C.1
  have hb := C.2.1
  have hml := C.2.2.1
  have hown := C.2.2.2.1
  have hw := C.2.2.2.2
  obtain ⟨hf0, hf1, hf2⟩ := lw_hf hf
  have hf3 := hf2
  obtain ⟨p0, hp0⟩ : ∃ y : Int32, xs (nI (i + 1)).toNatClampNeg = y := ⟨_, rfl⟩
  obtain ⟨p1, hp1⟩ : ∃ y : Int32, xs (nI (i + 2)).toNatClampNeg = y := ⟨_, rfl⟩
  refine lv_aload_n hx hb dL_law_551 rfl (lv_at hl 1 rfl) ?_
  refine lv_aload_n hx hb dL_law_552 rfl (lv_at hl 0 rfl) ?_
  refine lv_iload hx hb dL_law_553 (lv_at hl 4 rfl) ?_
  refine lv_iconst (v := (1 : Int32)) hx hb dL_law_555 qi_1 ?_
  refine lv_iadd hx hb dL_law_556 ?_
  refine k_foldi (y := (nI (i + 1))) (nI_add i 1) ?_
  refine va_sld hx hb hX hbl hbA hS (lw_in hi hL9 rfl) dL_law_557 ?_
  refine k_foldi (y := p0) hp0 ?_
  refine lv_aload_n hx hb dL_law_558 rfl (lv_at hl 0 rfl) ?_
  refine lv_iload hx hb dL_law_559 (lv_at hl 4 rfl) ?_
  refine lv_iconst (v := (2 : Int32)) hx hb dL_law_561 qi_2 ?_
  refine lv_iadd hx hb dL_law_562 ?_
  refine k_foldi (y := (nI (i + 2))) (nI_add i 2) ?_
  refine va_sld hx hb hX hbl hbA hS (lw_in hi hL9 rfl) dL_law_563 ?_
  refine k_foldi (y := p1) hp1 ?_
  refine lv_aload_n hx hb dL_law_564 rfl (lv_at hl 3 rfl) ?_
  refine lwHelp (n := 4) (wr := (wM G bb T)) (wd := (wH G a o n sv S)) (as := [.ref (a 0), .int p0, .int p1, .ref o]) (rest := []) C (k_copy l hl9 G a o n sv S p0 p1) bw441 bw56 (by decide +kernel) rfl bw439 bw440 hN (hE.S hS hAB) hP hD hS hA hAB hl.1 dL_law_565 ⟨(Nat.le_of_ble_eq_true rfl), (Nat.le_of_ble_eq_true rfl)⟩ rfl (Nat.le_of_ble_eq_true rfl) hf1 (fun r9 wd9 H locs hp9 hP hD hS => ?_)
  obtain ⟨c9, n9, sv9, S9, rfl, rfl, h9⟩ := hp9
  refine W.eq (g2 := F0 m 568 ls [.int c9]) rfl ?_
  refine lv_istore (lv' := [(5, .int c9), (0, .ref b9), (1, .ref (a 0)), (2, .ref (bb 0)), (3, .ref o), (4, .int (nI i))]) hx hb dL_law_568 hl (Nat.le_of_ble_eq_true rfl) rfl (fun ls hl => ?_)
  refine lv_aload_n hx hb dL_law_570 rfl (lv_at hl 3 rfl) ?_
  refine lv_aload_n hx hb dL_law_571 rfl (lv_at hl 1 rfl) ?_
  refine lv_iload hx hb dL_law_572 (lv_at hl 5 rfl) ?_
  refine lv_iconst (v := (1 : Int32)) hx hb dL_law_574 qi_1 ?_
  refine lv_iadd hx hb dL_law_575 ?_
  refine k_foldi (y := (nI (i + 1))) (nI_add i 1) ?_
  refine va_sld hx hb hX hbl hbA hS (lw_in hi hL9 rfl) dL_law_576 ?_
  refine k_foldi (y := p0) hp0 ?_
  refine lv_aload_n hx hb dL_law_577 rfl (lv_at hl 1 rfl) ?_
  refine lv_iload hx hb dL_law_578 (lv_at hl 5 rfl) ?_
  refine lv_iconst (v := (2 : Int32)) hx hb dL_law_580 qi_2 ?_
  refine lv_iadd hx hb dL_law_581 ?_
  refine k_foldi (y := (nI (i + 2))) (nI_add i 2) ?_
  refine va_sld hx hb hX hbl hbA hS (lw_in hi hL9 rfl) dL_law_582 ?_
  refine k_foldi (y := p1) hp1 ?_
  refine lwWR (MC := 170) (MS := 4200) (st1 := [.int ((gX2_copy T p0 p1).1)]) (wr := (wH G a o n9 sv9 S9)) (wd := (wM G bb T)) (as := [.int p0, .int p1]) (rest := []) (cl := RX2) (Nat.le_of_ble_eq_true rfl) (Nat.le_of_ble_eq_true rfl) C (c_X2_copy l G bb T p0 p1 (Rel.mo hR)) F_X2_copy rfl bw1292 bw1293 bw1294 (hE.S hS hAB) hP hD hS hA hAB (rv4 hE.K (P_tl (wr := (wH G a o n9 sv9 S9)) hP) (q0 := 0) rfl) hl.1 dL_law_583 ⟨(Nat.le_of_ble_eq_true rfl), (Nat.le_of_ble_eq_true rfl)⟩ rfl (Nat.le_of_ble_eq_true rfl) hf2 rfl (fun H locs hP hD hS => ?_)
  have hc9 := cmp_copy hR h9
  refine lv_istore (lv' := [(6, .int ((gX2_copy T p0 p1).1)), (5, .int c9), (0, .ref b9), (1, .ref (a 0)), (2, .ref (bb 0)), (3, .ref o), (4, .int (nI i))]) hx hb dL_law_586 hl (Nat.le_of_ble_eq_true rfl) rfl (fun ls hl => ?_)
  refine lv_aload_n hx hb dL_law_588 rfl (lv_at hl 4 rfl) ?_
  refine rcVf (st1 := [.int (fX2_thrown ((gX2_copy T p0 p1).2))]) (as := []) (rest := []) (cl := RX2) C (c_X2_thrown l G bb ((gX2_copy T p0 p1).2)) F_X2_thrown rfl bw1200 bw1201 (hw _ bw1202) (hE.S hS hAB) (P_hd hP) (rv4 hE.K (P_hd hP) (q0 := 0) rfl) hl.1 dL_law_589 ⟨Nat.le_of_ble_eq_true rfl, Nat.le_of_ble_eq_true rfl⟩ rfl (Nat.le_of_ble_eq_true rfl) hf3 rfl ?_
  refine k_foldi (y := c9) hc9.1 ?_
  refine lv_iload hx hb dL_law_592 (lv_at hl 1 rfl) ?_
  refine lv_icmp_eq (tgt := 599) hx hb dL_law_594 (by decide) (fun _ => ?_) (fun c_x => absurd rfl c_x)
  refine lv_iload hx hb dL_law_599 (lv_at hl 1 rfl) ?_
  refine lv_if_ne (tgt := 617) hx hb dL_law_601 (by decide) (fun c_1 => ?_) (fun c_1 => ?_)
  · refine lv_goto (tgt := 3946) hx hb dL_law_617 (by decide) ?_
    refine W.widen (k := cells + 200) (n := slots + 5000) (by first | exact Nat.le_of_eq (Nat.add_assoc _ _ _) | omega) (by first | exact Nat.le_of_eq (Nat.add_assoc _ _ _) | omega) ?_
    exact kk n9 sv9 S9 ((gX2_copy T p0 p1).2) _ _ ls (rel_copy hR h9) hP hD hS (lv_sub hl [2, 3, 4, 5, 6] rfl)
  · refine lv_aload_n hx hb dL_law_604 rfl (lv_at hl 5 rfl) ?_
    refine va_getN (D := gD G) (cl := vwCl) (tys := gT G) (ci := 3) (v := .long n9) (C := RX1) (T := TX1) (N := 2) hx hb hw inB_X1 hown hE.K hP 5 rfl rfl 0 (by decide) (va_Nw.use rfl hN.2.1) (fun _ h9 => h9) rfl dL_law_605 ?_
    refine lv_iload hx hb dL_law_608 (lv_at hl 0 rfl) ?_
    refine lv_i2l (v := (((gX2_copy T p0 p1).1).toInt64)) hx hb dL_law_610 (by first | rfl | decide) ?_
    refine W.lcmp hx hb dL_law_611 ?_
    refine lv_if_eq (tgt := 617) hx hb dL_law_612 (by decide) (fun _ => ?_) (fun c_x => absurd (lgc_eq.mpr (by rw [hc9.2 c_1])) c_x)
    refine lv_goto (tgt := 3946) hx hb dL_law_617 (by decide) ?_
    refine W.widen (k := cells + 200) (n := slots + 5000) (by first | exact Nat.le_of_eq (Nat.add_assoc _ _ _) | omega) (by first | exact Nat.le_of_eq (Nat.add_assoc _ _ _) | omega) ?_
    exact kk n9 sv9 S9 ((gX2_copy T p0 p1).2) _ _ ls (rel_copy hR h9) hP hD hS (lv_sub hl [2, 3, 4, 5, 6] rfl)

set_option maxRecDepth 100000 in
set_option maxHeartbeats 4000000 in
theorem case_takeDate {p : Program} {l : Launch} {e : Env} {s : State} {m : MethodId} {below : List Frame} {meth : Method} {c : Code} {Q : State → Prop} {G : GT} {b9 L9 : Nat} {xs : Nat → Int32} {a bb : Nat → Nat} {o : Nat} (Z : LW p l s m meth c G b9 L9 xs) {i cells slots : Nat} (hi : i + 6 ≤ L9) (hf : cells + 200 ≤ room_1.cells ∧ slots + 5000 ≤ room_1.slots) {n : Int64} {sv : Value} {S : SX} {T : SM} (hR : Rel S T) {H : Heap} {locs : List Loc} {ls : Array Slot} (hP : va_P (gD G) vwCl (wM G bb T ++ wH G a o n sv S) H) (hD : va_D (fun q : Nat => s.heap.size ≤ q) (wM G bb T ++ wH G a o n sv S)) (hS : va_S (fun q : Nat => s.heap.size ≤ q) s.heap H locs) (hl : lv_has ls 7 [(0, .ref b9), (1, .ref (a 0)), (2, .ref (bb 0)), (3, .ref o), (4, .int (nI i))]) (kk : ∀ (n : Int64) (sv : Value) (S : SX) (T : SM) (H : Heap) (locs : List Loc) (ls : Array Slot), Rel S T → va_P (gD G) vwCl (wM G bb T ++ wH G a o n sv S) H → va_D (fun q : Nat => s.heap.size ≤ q) (wM G bb T ++ wH G a o n sv S) → va_S (fun q : Nat => s.heap.size ≤ q) s.heap H locs → lv_has ls 7 [(0, .ref b9), (1, .ref (a 0)), (2, .ref (bb 0)), (3, .ref o), (4, .int (nI i))] → W p l e room_1 s m #[Value.ref b9] below meth c H locs (cells + 200) (slots + 5000) Q (F0 m 3946 ls [])) : W p l e room_1 s m #[Value.ref b9] below meth c H locs (cells) (slots) Q (F0 m 620 ls []) := by
  obtain ⟨C, hE, hN, hX, hbl, hl9, hL9, hA, hAB, hbA⟩ := Z
  have hx := C.1
  have hb := C.2.1
  have hml := C.2.2.1
  have hown := C.2.2.2.1
  have hw := C.2.2.2.2
  obtain ⟨hf0, hf1, hf2⟩ := lw_hf hf
  have hf3 := hf2
  obtain ⟨p0, hp0⟩ : ∃ y : Int32, xs (nI (i + 1)).toNatClampNeg = y := ⟨_, rfl⟩
  obtain ⟨p1, hp1⟩ : ∃ y : Int32, xs (nI (i + 2)).toNatClampNeg = y := ⟨_, rfl⟩
  refine lv_aload_n hx hb dL_law_620 rfl (lv_at hl 1 rfl) ?_
  refine lv_aload_n hx hb dL_law_621 rfl (lv_at hl 0 rfl) ?_
  refine lv_iload hx hb dL_law_622 (lv_at hl 4 rfl) ?_
  refine lv_iconst (v := (1 : Int32)) hx hb dL_law_624 qi_1 ?_
  refine lv_iadd hx hb dL_law_625 ?_
  refine k_foldi (y := (nI (i + 1))) (nI_add i 1) ?_
  refine va_sld hx hb hX hbl hbA hS (lw_in hi hL9 rfl) dL_law_626 ?_
  refine k_foldi (y := p0) hp0 ?_
  refine lv_aload_n hx hb dL_law_627 rfl (lv_at hl 0 rfl) ?_
  refine lv_iload hx hb dL_law_628 (lv_at hl 4 rfl) ?_
  refine lv_iconst (v := (2 : Int32)) hx hb dL_law_630 qi_2 ?_
  refine lv_iadd hx hb dL_law_631 ?_
  refine k_foldi (y := (nI (i + 2))) (nI_add i 2) ?_
  refine va_sld hx hb hX hbl hbA hS (lw_in hi hL9 rfl) dL_law_632 ?_
  refine k_foldi (y := p1) hp1 ?_
  refine lv_aload_n hx hb dL_law_633 rfl (lv_at hl 3 rfl) ?_
  refine lwHelp (n := 4) (wr := (wM G bb T)) (wd := (wH G a o n sv S)) (as := [.ref (a 0), .int p0, .int p1, .ref o]) (rest := []) C (k_takeDate l hl9 G a o n sv S p0 p1) bw452 bw56 (by decide +kernel) rfl bw450 bw451 hN (hE.S hS hAB) hP hD hS hA hAB hl.1 dL_law_634 ⟨(Nat.le_of_ble_eq_true rfl), (Nat.le_of_ble_eq_true rfl)⟩ rfl (Nat.le_of_ble_eq_true rfl) hf1 (fun r9 wd9 H locs hp9 hP hD hS => ?_)
  obtain ⟨c9, n9, sv9, S9, rfl, rfl, h9⟩ := hp9
  refine W.eq (g2 := F0 m 637 ls [.int c9]) rfl ?_
  refine lv_istore (lv' := [(5, .int c9), (0, .ref b9), (1, .ref (a 0)), (2, .ref (bb 0)), (3, .ref o), (4, .int (nI i))]) hx hb dL_law_637 hl (Nat.le_of_ble_eq_true rfl) rfl (fun ls hl => ?_)
  refine lv_aload_n hx hb dL_law_639 rfl (lv_at hl 3 rfl) ?_
  refine lv_aload_n hx hb dL_law_640 rfl (lv_at hl 1 rfl) ?_
  refine lv_iload hx hb dL_law_641 (lv_at hl 5 rfl) ?_
  refine lv_iconst (v := (1 : Int32)) hx hb dL_law_643 qi_1 ?_
  refine lv_iadd hx hb dL_law_644 ?_
  refine k_foldi (y := (nI (i + 1))) (nI_add i 1) ?_
  refine va_sld hx hb hX hbl hbA hS (lw_in hi hL9 rfl) dL_law_645 ?_
  refine k_foldi (y := p0) hp0 ?_
  refine lv_aload_n hx hb dL_law_646 rfl (lv_at hl 1 rfl) ?_
  refine lv_iload hx hb dL_law_647 (lv_at hl 5 rfl) ?_
  refine lv_iconst (v := (2 : Int32)) hx hb dL_law_649 qi_2 ?_
  refine lv_iadd hx hb dL_law_650 ?_
  refine k_foldi (y := (nI (i + 2))) (nI_add i 2) ?_
  refine va_sld hx hb hX hbl hbA hS (lw_in hi hL9 rfl) dL_law_651 ?_
  refine k_foldi (y := p1) hp1 ?_
  refine lwWR (MC := 170) (MS := 4200) (st1 := [.int ((gX2_takeDate T p0 p1).1)]) (wr := (wH G a o n9 sv9 S9)) (wd := (wM G bb T)) (as := [.int p0, .int p1]) (rest := []) (cl := RX2) (Nat.le_of_ble_eq_true rfl) (Nat.le_of_ble_eq_true rfl) C (c_X2_takeDate l G bb T p0 p1 (Rel.mo hR)) F_X2_takeDate rfl bw1296 bw1297 bw1298 (hE.S hS hAB) hP hD hS hA hAB (rv4 hE.K (P_tl (wr := (wH G a o n9 sv9 S9)) hP) (q0 := 0) rfl) hl.1 dL_law_652 ⟨(Nat.le_of_ble_eq_true rfl), (Nat.le_of_ble_eq_true rfl)⟩ rfl (Nat.le_of_ble_eq_true rfl) hf2 rfl (fun H locs hP hD hS => ?_)
  have hc9 := cmp_takeDate hR h9
  refine lv_istore (lv' := [(6, .int ((gX2_takeDate T p0 p1).1)), (5, .int c9), (0, .ref b9), (1, .ref (a 0)), (2, .ref (bb 0)), (3, .ref o), (4, .int (nI i))]) hx hb dL_law_655 hl (Nat.le_of_ble_eq_true rfl) rfl (fun ls hl => ?_)
  refine lv_aload_n hx hb dL_law_657 rfl (lv_at hl 4 rfl) ?_
  refine rcVf (st1 := [.int (fX2_thrown ((gX2_takeDate T p0 p1).2))]) (as := []) (rest := []) (cl := RX2) C (c_X2_thrown l G bb ((gX2_takeDate T p0 p1).2)) F_X2_thrown rfl bw1200 bw1201 (hw _ bw1202) (hE.S hS hAB) (P_hd hP) (rv4 hE.K (P_hd hP) (q0 := 0) rfl) hl.1 dL_law_658 ⟨Nat.le_of_ble_eq_true rfl, Nat.le_of_ble_eq_true rfl⟩ rfl (Nat.le_of_ble_eq_true rfl) hf3 rfl ?_
  refine k_foldi (y := c9) hc9.1 ?_
  refine lv_iload hx hb dL_law_661 (lv_at hl 1 rfl) ?_
  refine lv_icmp_eq (tgt := 668) hx hb dL_law_663 (by decide) (fun _ => ?_) (fun c_x => absurd rfl c_x)
  refine lv_iload hx hb dL_law_668 (lv_at hl 1 rfl) ?_
  refine lv_if_ne (tgt := 686) hx hb dL_law_670 (by decide) (fun c_1 => ?_) (fun c_1 => ?_)
  · refine lv_goto (tgt := 3946) hx hb dL_law_686 (by decide) ?_
    refine W.widen (k := cells + 200) (n := slots + 5000) (by first | exact Nat.le_of_eq (Nat.add_assoc _ _ _) | omega) (by first | exact Nat.le_of_eq (Nat.add_assoc _ _ _) | omega) ?_
    exact kk n9 sv9 S9 ((gX2_takeDate T p0 p1).2) _ _ ls (rel_takeDate hR h9) hP hD hS (lv_sub hl [2, 3, 4, 5, 6] rfl)
  · refine lv_aload_n hx hb dL_law_673 rfl (lv_at hl 5 rfl) ?_
    refine va_getN (D := gD G) (cl := vwCl) (tys := gT G) (ci := 3) (v := .long n9) (C := RX1) (T := TX1) (N := 2) hx hb hw inB_X1 hown hE.K hP 5 rfl rfl 0 (by decide) (va_Nw.use rfl hN.2.1) (fun _ h9 => h9) rfl dL_law_674 ?_
    refine lv_iload hx hb dL_law_677 (lv_at hl 0 rfl) ?_
    refine lv_i2l (v := (((gX2_takeDate T p0 p1).1).toInt64)) hx hb dL_law_679 (by first | rfl | decide) ?_
    refine W.lcmp hx hb dL_law_680 ?_
    refine lv_if_eq (tgt := 686) hx hb dL_law_681 (by decide) (fun _ => ?_) (fun c_x => absurd (lgc_eq.mpr (by rw [hc9.2 c_1])) c_x)
    refine lv_goto (tgt := 3946) hx hb dL_law_686 (by decide) ?_
    refine W.widen (k := cells + 200) (n := slots + 5000) (by first | exact Nat.le_of_eq (Nat.add_assoc _ _ _) | omega) (by first | exact Nat.le_of_eq (Nat.add_assoc _ _ _) | omega) ?_
    exact kk n9 sv9 S9 ((gX2_takeDate T p0 p1).2) _ _ ls (rel_takeDate hR h9) hP hD hS (lv_sub hl [2, 3, 4, 5, 6] rfl)

set_option maxRecDepth 100000 in
set_option maxHeartbeats 4000000 in
theorem case_takeTime {p : Program} {l : Launch} {e : Env} {s : State} {m : MethodId} {below : List Frame} {meth : Method} {c : Code} {Q : State → Prop} {G : GT} {b9 L9 : Nat} {xs : Nat → Int32} {a bb : Nat → Nat} {o : Nat} (Z : LW p l s m meth c G b9 L9 xs) {i cells slots : Nat} (hi : i + 6 ≤ L9) (hf : cells + 200 ≤ room_1.cells ∧ slots + 5000 ≤ room_1.slots) {n : Int64} {sv : Value} {S : SX} {T : SM} (hR : Rel S T) {H : Heap} {locs : List Loc} {ls : Array Slot} (hP : va_P (gD G) vwCl (wM G bb T ++ wH G a o n sv S) H) (hD : va_D (fun q : Nat => s.heap.size ≤ q) (wM G bb T ++ wH G a o n sv S)) (hS : va_S (fun q : Nat => s.heap.size ≤ q) s.heap H locs) (hl : lv_has ls 7 [(0, .ref b9), (1, .ref (a 0)), (2, .ref (bb 0)), (3, .ref o), (4, .int (nI i))]) (kk : ∀ (n : Int64) (sv : Value) (S : SX) (T : SM) (H : Heap) (locs : List Loc) (ls : Array Slot), Rel S T → va_P (gD G) vwCl (wM G bb T ++ wH G a o n sv S) H → va_D (fun q : Nat => s.heap.size ≤ q) (wM G bb T ++ wH G a o n sv S) → va_S (fun q : Nat => s.heap.size ≤ q) s.heap H locs → lv_has ls 7 [(0, .ref b9), (1, .ref (a 0)), (2, .ref (bb 0)), (3, .ref o), (4, .int (nI i))] → W p l e room_1 s m #[Value.ref b9] below meth c H locs (cells + 200) (slots + 5000) Q (F0 m 3946 ls [])) : W p l e room_1 s m #[Value.ref b9] below meth c H locs (cells) (slots) Q (F0 m 689 ls []) := by
  obtain ⟨C, hE, hN, hX, hbl, hl9, hL9, hA, hAB, hbA⟩ := Z
  have hx := C.1
  have hb := C.2.1
  have hml := C.2.2.1
  have hown := C.2.2.2.1
  have hw := C.2.2.2.2
  obtain ⟨hf0, hf1, hf2⟩ := lw_hf hf
  have hf3 := hf2
  obtain ⟨p0, hp0⟩ : ∃ y : Int32, xs (nI (i + 1)).toNatClampNeg = y := ⟨_, rfl⟩
  obtain ⟨p1, hp1⟩ : ∃ y : Int32, xs (nI (i + 2)).toNatClampNeg = y := ⟨_, rfl⟩
  refine lv_aload_n hx hb dL_law_689 rfl (lv_at hl 1 rfl) ?_
  refine lv_aload_n hx hb dL_law_690 rfl (lv_at hl 0 rfl) ?_
  refine lv_iload hx hb dL_law_691 (lv_at hl 4 rfl) ?_
  refine lv_iconst (v := (1 : Int32)) hx hb dL_law_693 qi_1 ?_
  refine lv_iadd hx hb dL_law_694 ?_
  refine k_foldi (y := (nI (i + 1))) (nI_add i 1) ?_
  refine va_sld hx hb hX hbl hbA hS (lw_in hi hL9 rfl) dL_law_695 ?_
  refine k_foldi (y := p0) hp0 ?_
  refine lv_aload_n hx hb dL_law_696 rfl (lv_at hl 0 rfl) ?_
  refine lv_iload hx hb dL_law_697 (lv_at hl 4 rfl) ?_
  refine lv_iconst (v := (2 : Int32)) hx hb dL_law_699 qi_2 ?_
  refine lv_iadd hx hb dL_law_700 ?_
  refine k_foldi (y := (nI (i + 2))) (nI_add i 2) ?_
  refine va_sld hx hb hX hbl hbA hS (lw_in hi hL9 rfl) dL_law_701 ?_
  refine k_foldi (y := p1) hp1 ?_
  refine lv_aload_n hx hb dL_law_702 rfl (lv_at hl 3 rfl) ?_
  refine lwHelp (n := 4) (wr := (wM G bb T)) (wd := (wH G a o n sv S)) (as := [.ref (a 0), .int p0, .int p1, .ref o]) (rest := []) C (k_takeTime l hl9 G a o n sv S p0 p1) bw459 bw56 (by decide +kernel) rfl bw457 bw458 hN (hE.S hS hAB) hP hD hS hA hAB hl.1 dL_law_703 ⟨(Nat.le_of_ble_eq_true rfl), (Nat.le_of_ble_eq_true rfl)⟩ rfl (Nat.le_of_ble_eq_true rfl) hf1 (fun r9 wd9 H locs hp9 hP hD hS => ?_)
  obtain ⟨c9, n9, sv9, S9, rfl, rfl, h9⟩ := hp9
  refine W.eq (g2 := F0 m 706 ls [.int c9]) rfl ?_
  refine lv_istore (lv' := [(5, .int c9), (0, .ref b9), (1, .ref (a 0)), (2, .ref (bb 0)), (3, .ref o), (4, .int (nI i))]) hx hb dL_law_706 hl (Nat.le_of_ble_eq_true rfl) rfl (fun ls hl => ?_)
  refine lv_aload_n hx hb dL_law_708 rfl (lv_at hl 3 rfl) ?_
  refine lv_aload_n hx hb dL_law_709 rfl (lv_at hl 1 rfl) ?_
  refine lv_iload hx hb dL_law_710 (lv_at hl 5 rfl) ?_
  refine lv_iconst (v := (1 : Int32)) hx hb dL_law_712 qi_1 ?_
  refine lv_iadd hx hb dL_law_713 ?_
  refine k_foldi (y := (nI (i + 1))) (nI_add i 1) ?_
  refine va_sld hx hb hX hbl hbA hS (lw_in hi hL9 rfl) dL_law_714 ?_
  refine k_foldi (y := p0) hp0 ?_
  refine lv_aload_n hx hb dL_law_715 rfl (lv_at hl 1 rfl) ?_
  refine lv_iload hx hb dL_law_716 (lv_at hl 5 rfl) ?_
  refine lv_iconst (v := (2 : Int32)) hx hb dL_law_718 qi_2 ?_
  refine lv_iadd hx hb dL_law_719 ?_
  refine k_foldi (y := (nI (i + 2))) (nI_add i 2) ?_
  refine va_sld hx hb hX hbl hbA hS (lw_in hi hL9 rfl) dL_law_720 ?_
  refine k_foldi (y := p1) hp1 ?_
  refine lwWR (MC := 170) (MS := 4200) (st1 := [.int ((gX2_takeTime T p0 p1).1)]) (wr := (wH G a o n9 sv9 S9)) (wd := (wM G bb T)) (as := [.int p0, .int p1]) (rest := []) (cl := RX2) (Nat.le_of_ble_eq_true rfl) (Nat.le_of_ble_eq_true rfl) C (c_X2_takeTime l G bb T p0 p1 (Rel.mo hR)) F_X2_takeTime rfl bw1300 bw1301 bw1302 (hE.S hS hAB) hP hD hS hA hAB (rv4 hE.K (P_tl (wr := (wH G a o n9 sv9 S9)) hP) (q0 := 0) rfl) hl.1 dL_law_721 ⟨(Nat.le_of_ble_eq_true rfl), (Nat.le_of_ble_eq_true rfl)⟩ rfl (Nat.le_of_ble_eq_true rfl) hf2 rfl (fun H locs hP hD hS => ?_)
  have hc9 := cmp_takeTime hR h9
  refine lv_istore (lv' := [(6, .int ((gX2_takeTime T p0 p1).1)), (5, .int c9), (0, .ref b9), (1, .ref (a 0)), (2, .ref (bb 0)), (3, .ref o), (4, .int (nI i))]) hx hb dL_law_724 hl (Nat.le_of_ble_eq_true rfl) rfl (fun ls hl => ?_)
  refine lv_aload_n hx hb dL_law_726 rfl (lv_at hl 4 rfl) ?_
  refine rcVf (st1 := [.int (fX2_thrown ((gX2_takeTime T p0 p1).2))]) (as := []) (rest := []) (cl := RX2) C (c_X2_thrown l G bb ((gX2_takeTime T p0 p1).2)) F_X2_thrown rfl bw1200 bw1201 (hw _ bw1202) (hE.S hS hAB) (P_hd hP) (rv4 hE.K (P_hd hP) (q0 := 0) rfl) hl.1 dL_law_727 ⟨Nat.le_of_ble_eq_true rfl, Nat.le_of_ble_eq_true rfl⟩ rfl (Nat.le_of_ble_eq_true rfl) hf3 rfl ?_
  refine k_foldi (y := c9) hc9.1 ?_
  refine lv_iload hx hb dL_law_730 (lv_at hl 1 rfl) ?_
  refine lv_icmp_eq (tgt := 737) hx hb dL_law_732 (by decide) (fun _ => ?_) (fun c_x => absurd rfl c_x)
  refine lv_iload hx hb dL_law_737 (lv_at hl 1 rfl) ?_
  refine lv_if_ne (tgt := 755) hx hb dL_law_739 (by decide) (fun c_1 => ?_) (fun c_1 => ?_)
  · refine lv_goto (tgt := 3946) hx hb dL_law_755 (by decide) ?_
    refine W.widen (k := cells + 200) (n := slots + 5000) (by first | exact Nat.le_of_eq (Nat.add_assoc _ _ _) | omega) (by first | exact Nat.le_of_eq (Nat.add_assoc _ _ _) | omega) ?_
    exact kk n9 sv9 S9 ((gX2_takeTime T p0 p1).2) _ _ ls (rel_takeTime hR h9) hP hD hS (lv_sub hl [2, 3, 4, 5, 6] rfl)
  · refine lv_aload_n hx hb dL_law_742 rfl (lv_at hl 5 rfl) ?_
    refine va_getN (D := gD G) (cl := vwCl) (tys := gT G) (ci := 3) (v := .long n9) (C := RX1) (T := TX1) (N := 2) hx hb hw inB_X1 hown hE.K hP 5 rfl rfl 0 (by decide) (va_Nw.use rfl hN.2.1) (fun _ h9 => h9) rfl dL_law_743 ?_
    refine lv_iload hx hb dL_law_746 (lv_at hl 0 rfl) ?_
    refine lv_i2l (v := (((gX2_takeTime T p0 p1).1).toInt64)) hx hb dL_law_748 (by first | rfl | decide) ?_
    refine W.lcmp hx hb dL_law_749 ?_
    refine lv_if_eq (tgt := 755) hx hb dL_law_750 (by decide) (fun _ => ?_) (fun c_x => absurd (lgc_eq.mpr (by rw [hc9.2 c_1])) c_x)
    refine lv_goto (tgt := 3946) hx hb dL_law_755 (by decide) ?_
    refine W.widen (k := cells + 200) (n := slots + 5000) (by first | exact Nat.le_of_eq (Nat.add_assoc _ _ _) | omega) (by first | exact Nat.le_of_eq (Nat.add_assoc _ _ _) | omega) ?_
    exact kk n9 sv9 S9 ((gX2_takeTime T p0 p1).2) _ _ ls (rel_takeTime hR h9) hP hD hS (lv_sub hl [2, 3, 4, 5, 6] rfl)

set_option maxRecDepth 100000 in
set_option maxHeartbeats 4000000 in
theorem case_withYear {p : Program} {l : Launch} {e : Env} {s : State} {m : MethodId} {below : List Frame} {meth : Method} {c : Code} {Q : State → Prop} {G : GT} {b9 L9 : Nat} {xs : Nat → Int32} {a bb : Nat → Nat} {o : Nat} (Z : LW p l s m meth c G b9 L9 xs) {i cells slots : Nat} (hi : i + 6 ≤ L9) (hf : cells + 200 ≤ room_1.cells ∧ slots + 5000 ≤ room_1.slots) {n : Int64} {sv : Value} {S : SX} {T : SM} (hR : Rel S T) {H : Heap} {locs : List Loc} {ls : Array Slot} (hP : va_P (gD G) vwCl (wM G bb T ++ wH G a o n sv S) H) (hD : va_D (fun q : Nat => s.heap.size ≤ q) (wM G bb T ++ wH G a o n sv S)) (hS : va_S (fun q : Nat => s.heap.size ≤ q) s.heap H locs) (hl : lv_has ls 7 [(0, .ref b9), (1, .ref (a 0)), (2, .ref (bb 0)), (3, .ref o), (4, .int (nI i))]) (kk : ∀ (n : Int64) (sv : Value) (S : SX) (T : SM) (H : Heap) (locs : List Loc) (ls : Array Slot), Rel S T → va_P (gD G) vwCl (wM G bb T ++ wH G a o n sv S) H → va_D (fun q : Nat => s.heap.size ≤ q) (wM G bb T ++ wH G a o n sv S) → va_S (fun q : Nat => s.heap.size ≤ q) s.heap H locs → lv_has ls 7 [(0, .ref b9), (1, .ref (a 0)), (2, .ref (bb 0)), (3, .ref o), (4, .int (nI i))] → W p l e room_1 s m #[Value.ref b9] below meth c H locs (cells + 200) (slots + 5000) Q (F0 m 3946 ls [])) : W p l e room_1 s m #[Value.ref b9] below meth c H locs (cells) (slots) Q (F0 m 758 ls []) := by
  obtain ⟨C, hE, hN, hX, hbl, hl9, hL9, hA, hAB, hbA⟩ := Z
  have hx := C.1
  have hb := C.2.1
  have hml := C.2.2.1
  have hown := C.2.2.2.1
  have hw := C.2.2.2.2
  obtain ⟨hf0, hf1, hf2⟩ := lw_hf hf
  have hf3 := hf2
  obtain ⟨p0, hp0⟩ : ∃ y : Int32, xs (nI (i + 1)).toNatClampNeg = y := ⟨_, rfl⟩
  obtain ⟨p1, hp1⟩ : ∃ y : Int32, xs (nI (i + 2)).toNatClampNeg = y := ⟨_, rfl⟩
  refine lv_aload_n hx hb dL_law_758 rfl (lv_at hl 1 rfl) ?_
  refine lv_aload_n hx hb dL_law_759 rfl (lv_at hl 0 rfl) ?_
  refine lv_iload hx hb dL_law_760 (lv_at hl 4 rfl) ?_
  refine lv_iconst (v := (1 : Int32)) hx hb dL_law_762 qi_1 ?_
  refine lv_iadd hx hb dL_law_763 ?_
  refine k_foldi (y := (nI (i + 1))) (nI_add i 1) ?_
  refine va_sld hx hb hX hbl hbA hS (lw_in hi hL9 rfl) dL_law_764 ?_
  refine k_foldi (y := p0) hp0 ?_
  refine lv_aload_n hx hb dL_law_765 rfl (lv_at hl 0 rfl) ?_
  refine lv_iload hx hb dL_law_766 (lv_at hl 4 rfl) ?_
  refine lv_iconst (v := (2 : Int32)) hx hb dL_law_768 qi_2 ?_
  refine lv_iadd hx hb dL_law_769 ?_
  refine k_foldi (y := (nI (i + 2))) (nI_add i 2) ?_
  refine va_sld hx hb hX hbl hbA hS (lw_in hi hL9 rfl) dL_law_770 ?_
  refine k_foldi (y := p1) hp1 ?_
  refine lv_aload_n hx hb dL_law_771 rfl (lv_at hl 3 rfl) ?_
  refine lwHelp (n := 4) (wr := (wM G bb T)) (wd := (wH G a o n sv S)) (as := [.ref (a 0), .int p0, .int p1, .ref o]) (rest := []) C (k_withYear l hl9 G a o n sv S p0 p1) bw466 bw56 (by decide +kernel) rfl bw464 bw465 hN (hE.S hS hAB) hP hD hS hA hAB hl.1 dL_law_772 ⟨(Nat.le_of_ble_eq_true rfl), (Nat.le_of_ble_eq_true rfl)⟩ rfl (Nat.le_of_ble_eq_true rfl) hf1 (fun r9 wd9 H locs hp9 hP hD hS => ?_)
  obtain ⟨c9, n9, sv9, S9, rfl, rfl, h9⟩ := hp9
  refine W.eq (g2 := F0 m 775 ls [.int c9]) rfl ?_
  refine lv_istore (lv' := [(5, .int c9), (0, .ref b9), (1, .ref (a 0)), (2, .ref (bb 0)), (3, .ref o), (4, .int (nI i))]) hx hb dL_law_775 hl (Nat.le_of_ble_eq_true rfl) rfl (fun ls hl => ?_)
  refine lv_aload_n hx hb dL_law_777 rfl (lv_at hl 3 rfl) ?_
  refine lv_aload_n hx hb dL_law_778 rfl (lv_at hl 1 rfl) ?_
  refine lv_iload hx hb dL_law_779 (lv_at hl 5 rfl) ?_
  refine lv_iconst (v := (1 : Int32)) hx hb dL_law_781 qi_1 ?_
  refine lv_iadd hx hb dL_law_782 ?_
  refine k_foldi (y := (nI (i + 1))) (nI_add i 1) ?_
  refine va_sld hx hb hX hbl hbA hS (lw_in hi hL9 rfl) dL_law_783 ?_
  refine k_foldi (y := p0) hp0 ?_
  refine lv_aload_n hx hb dL_law_784 rfl (lv_at hl 1 rfl) ?_
  refine lv_iload hx hb dL_law_785 (lv_at hl 5 rfl) ?_
  refine lv_iconst (v := (2 : Int32)) hx hb dL_law_787 qi_2 ?_
  refine lv_iadd hx hb dL_law_788 ?_
  refine k_foldi (y := (nI (i + 2))) (nI_add i 2) ?_
  refine va_sld hx hb hX hbl hbA hS (lw_in hi hL9 rfl) dL_law_789 ?_
  refine k_foldi (y := p1) hp1 ?_
  refine lwWR (MC := 170) (MS := 4200) (st1 := [.int ((gX2_withYear T p0 p1).1)]) (wr := (wH G a o n9 sv9 S9)) (wd := (wM G bb T)) (as := [.int p0, .int p1]) (rest := []) (cl := RX2) (Nat.le_of_ble_eq_true rfl) (Nat.le_of_ble_eq_true rfl) C (c_X2_withYear l G bb T p0 p1 (Rel.mo hR)) F_X2_withYear rfl bw1304 bw1305 bw1306 (hE.S hS hAB) hP hD hS hA hAB (rv4 hE.K (P_tl (wr := (wH G a o n9 sv9 S9)) hP) (q0 := 0) rfl) hl.1 dL_law_790 ⟨(Nat.le_of_ble_eq_true rfl), (Nat.le_of_ble_eq_true rfl)⟩ rfl (Nat.le_of_ble_eq_true rfl) hf2 rfl (fun H locs hP hD hS => ?_)
  have hc9 := cmp_withYear hR h9
  refine lv_istore (lv' := [(6, .int ((gX2_withYear T p0 p1).1)), (5, .int c9), (0, .ref b9), (1, .ref (a 0)), (2, .ref (bb 0)), (3, .ref o), (4, .int (nI i))]) hx hb dL_law_793 hl (Nat.le_of_ble_eq_true rfl) rfl (fun ls hl => ?_)
  refine lv_aload_n hx hb dL_law_795 rfl (lv_at hl 4 rfl) ?_
  refine rcVf (st1 := [.int (fX2_thrown ((gX2_withYear T p0 p1).2))]) (as := []) (rest := []) (cl := RX2) C (c_X2_thrown l G bb ((gX2_withYear T p0 p1).2)) F_X2_thrown rfl bw1200 bw1201 (hw _ bw1202) (hE.S hS hAB) (P_hd hP) (rv4 hE.K (P_hd hP) (q0 := 0) rfl) hl.1 dL_law_796 ⟨Nat.le_of_ble_eq_true rfl, Nat.le_of_ble_eq_true rfl⟩ rfl (Nat.le_of_ble_eq_true rfl) hf3 rfl ?_
  refine k_foldi (y := c9) hc9.1 ?_
  refine lv_iload hx hb dL_law_799 (lv_at hl 1 rfl) ?_
  refine lv_icmp_eq (tgt := 806) hx hb dL_law_801 (by decide) (fun _ => ?_) (fun c_x => absurd rfl c_x)
  refine lv_iload hx hb dL_law_806 (lv_at hl 1 rfl) ?_
  refine lv_if_ne (tgt := 824) hx hb dL_law_808 (by decide) (fun c_1 => ?_) (fun c_1 => ?_)
  · refine lv_goto (tgt := 3946) hx hb dL_law_824 (by decide) ?_
    refine W.widen (k := cells + 200) (n := slots + 5000) (by first | exact Nat.le_of_eq (Nat.add_assoc _ _ _) | omega) (by first | exact Nat.le_of_eq (Nat.add_assoc _ _ _) | omega) ?_
    exact kk n9 sv9 S9 ((gX2_withYear T p0 p1).2) _ _ ls (rel_withYear hR h9) hP hD hS (lv_sub hl [2, 3, 4, 5, 6] rfl)
  · refine lv_aload_n hx hb dL_law_811 rfl (lv_at hl 5 rfl) ?_
    refine va_getN (D := gD G) (cl := vwCl) (tys := gT G) (ci := 3) (v := .long n9) (C := RX1) (T := TX1) (N := 2) hx hb hw inB_X1 hown hE.K hP 5 rfl rfl 0 (by decide) (va_Nw.use rfl hN.2.1) (fun _ h9 => h9) rfl dL_law_812 ?_
    refine lv_iload hx hb dL_law_815 (lv_at hl 0 rfl) ?_
    refine lv_i2l (v := (((gX2_withYear T p0 p1).1).toInt64)) hx hb dL_law_817 (by first | rfl | decide) ?_
    refine W.lcmp hx hb dL_law_818 ?_
    refine lv_if_eq (tgt := 824) hx hb dL_law_819 (by decide) (fun _ => ?_) (fun c_x => absurd (lgc_eq.mpr (by rw [hc9.2 c_1])) c_x)
    refine lv_goto (tgt := 3946) hx hb dL_law_824 (by decide) ?_
    refine W.widen (k := cells + 200) (n := slots + 5000) (by first | exact Nat.le_of_eq (Nat.add_assoc _ _ _) | omega) (by first | exact Nat.le_of_eq (Nat.add_assoc _ _ _) | omega) ?_
    exact kk n9 sv9 S9 ((gX2_withYear T p0 p1).2) _ _ ls (rel_withYear hR h9) hP hD hS (lv_sub hl [2, 3, 4, 5, 6] rfl)

set_option maxRecDepth 100000 in
set_option maxHeartbeats 4000000 in
theorem case_withMonth {p : Program} {l : Launch} {e : Env} {s : State} {m : MethodId} {below : List Frame} {meth : Method} {c : Code} {Q : State → Prop} {G : GT} {b9 L9 : Nat} {xs : Nat → Int32} {a bb : Nat → Nat} {o : Nat} (Z : LW p l s m meth c G b9 L9 xs) {i cells slots : Nat} (hi : i + 6 ≤ L9) (hf : cells + 200 ≤ room_1.cells ∧ slots + 5000 ≤ room_1.slots) {n : Int64} {sv : Value} {S : SX} {T : SM} (hR : Rel S T) {H : Heap} {locs : List Loc} {ls : Array Slot} (hP : va_P (gD G) vwCl (wM G bb T ++ wH G a o n sv S) H) (hD : va_D (fun q : Nat => s.heap.size ≤ q) (wM G bb T ++ wH G a o n sv S)) (hS : va_S (fun q : Nat => s.heap.size ≤ q) s.heap H locs) (hl : lv_has ls 7 [(0, .ref b9), (1, .ref (a 0)), (2, .ref (bb 0)), (3, .ref o), (4, .int (nI i))]) (kk : ∀ (n : Int64) (sv : Value) (S : SX) (T : SM) (H : Heap) (locs : List Loc) (ls : Array Slot), Rel S T → va_P (gD G) vwCl (wM G bb T ++ wH G a o n sv S) H → va_D (fun q : Nat => s.heap.size ≤ q) (wM G bb T ++ wH G a o n sv S) → va_S (fun q : Nat => s.heap.size ≤ q) s.heap H locs → lv_has ls 7 [(0, .ref b9), (1, .ref (a 0)), (2, .ref (bb 0)), (3, .ref o), (4, .int (nI i))] → W p l e room_1 s m #[Value.ref b9] below meth c H locs (cells + 200) (slots + 5000) Q (F0 m 3946 ls [])) : W p l e room_1 s m #[Value.ref b9] below meth c H locs (cells) (slots) Q (F0 m 827 ls []) := by
  obtain ⟨C, hE, hN, hX, hbl, hl9, hL9, hA, hAB, hbA⟩ := Z
  have hx := C.1
  have hb := C.2.1
  have hml := C.2.2.1
  have hown := C.2.2.2.1
  have hw := C.2.2.2.2
  obtain ⟨hf0, hf1, hf2⟩ := lw_hf hf
  have hf3 := hf2
  obtain ⟨p0, hp0⟩ : ∃ y : Int32, xs (nI (i + 1)).toNatClampNeg = y := ⟨_, rfl⟩
  obtain ⟨p1, hp1⟩ : ∃ y : Int32, xs (nI (i + 2)).toNatClampNeg = y := ⟨_, rfl⟩
  refine lv_aload_n hx hb dL_law_827 rfl (lv_at hl 1 rfl) ?_
  refine lv_aload_n hx hb dL_law_828 rfl (lv_at hl 0 rfl) ?_
  refine lv_iload hx hb dL_law_829 (lv_at hl 4 rfl) ?_
  refine lv_iconst (v := (1 : Int32)) hx hb dL_law_831 qi_1 ?_
  refine lv_iadd hx hb dL_law_832 ?_
  refine k_foldi (y := (nI (i + 1))) (nI_add i 1) ?_
  refine va_sld hx hb hX hbl hbA hS (lw_in hi hL9 rfl) dL_law_833 ?_
  refine k_foldi (y := p0) hp0 ?_
  refine lv_aload_n hx hb dL_law_834 rfl (lv_at hl 0 rfl) ?_
  refine lv_iload hx hb dL_law_835 (lv_at hl 4 rfl) ?_
  refine lv_iconst (v := (2 : Int32)) hx hb dL_law_837 qi_2 ?_
  refine lv_iadd hx hb dL_law_838 ?_
  refine k_foldi (y := (nI (i + 2))) (nI_add i 2) ?_
  refine va_sld hx hb hX hbl hbA hS (lw_in hi hL9 rfl) dL_law_839 ?_
  refine k_foldi (y := p1) hp1 ?_
  refine lv_aload_n hx hb dL_law_840 rfl (lv_at hl 3 rfl) ?_
  refine lwHelp (n := 4) (wr := (wM G bb T)) (wd := (wH G a o n sv S)) (as := [.ref (a 0), .int p0, .int p1, .ref o]) (rest := []) C (k_withMonth l hl9 G a o n sv S p0 p1) bw477 bw56 (by decide +kernel) rfl bw475 bw476 hN (hE.S hS hAB) hP hD hS hA hAB hl.1 dL_law_841 ⟨(Nat.le_of_ble_eq_true rfl), (Nat.le_of_ble_eq_true rfl)⟩ rfl (Nat.le_of_ble_eq_true rfl) hf1 (fun r9 wd9 H locs hp9 hP hD hS => ?_)
  obtain ⟨c9, n9, sv9, S9, rfl, rfl, h9⟩ := hp9
  refine W.eq (g2 := F0 m 844 ls [.int c9]) rfl ?_
  refine lv_istore (lv' := [(5, .int c9), (0, .ref b9), (1, .ref (a 0)), (2, .ref (bb 0)), (3, .ref o), (4, .int (nI i))]) hx hb dL_law_844 hl (Nat.le_of_ble_eq_true rfl) rfl (fun ls hl => ?_)
  refine lv_aload_n hx hb dL_law_846 rfl (lv_at hl 3 rfl) ?_
  refine lv_aload_n hx hb dL_law_847 rfl (lv_at hl 1 rfl) ?_
  refine lv_iload hx hb dL_law_848 (lv_at hl 5 rfl) ?_
  refine lv_iconst (v := (1 : Int32)) hx hb dL_law_850 qi_1 ?_
  refine lv_iadd hx hb dL_law_851 ?_
  refine k_foldi (y := (nI (i + 1))) (nI_add i 1) ?_
  refine va_sld hx hb hX hbl hbA hS (lw_in hi hL9 rfl) dL_law_852 ?_
  refine k_foldi (y := p0) hp0 ?_
  refine lv_aload_n hx hb dL_law_853 rfl (lv_at hl 1 rfl) ?_
  refine lv_iload hx hb dL_law_854 (lv_at hl 5 rfl) ?_
  refine lv_iconst (v := (2 : Int32)) hx hb dL_law_856 qi_2 ?_
  refine lv_iadd hx hb dL_law_857 ?_
  refine k_foldi (y := (nI (i + 2))) (nI_add i 2) ?_
  refine va_sld hx hb hX hbl hbA hS (lw_in hi hL9 rfl) dL_law_858 ?_
  refine k_foldi (y := p1) hp1 ?_
  refine lwWR (MC := 170) (MS := 4200) (st1 := [.int ((gX2_withMonth T p0 p1).1)]) (wr := (wH G a o n9 sv9 S9)) (wd := (wM G bb T)) (as := [.int p0, .int p1]) (rest := []) (cl := RX2) (Nat.le_of_ble_eq_true rfl) (Nat.le_of_ble_eq_true rfl) C (c_X2_withMonth l G bb T p0 p1 (Rel.mo hR)) F_X2_withMonth rfl bw1315 bw1316 bw1317 (hE.S hS hAB) hP hD hS hA hAB (rv4 hE.K (P_tl (wr := (wH G a o n9 sv9 S9)) hP) (q0 := 0) rfl) hl.1 dL_law_859 ⟨(Nat.le_of_ble_eq_true rfl), (Nat.le_of_ble_eq_true rfl)⟩ rfl (Nat.le_of_ble_eq_true rfl) hf2 rfl (fun H locs hP hD hS => ?_)
  have hc9 := cmp_withMonth hR h9
  refine lv_istore (lv' := [(6, .int ((gX2_withMonth T p0 p1).1)), (5, .int c9), (0, .ref b9), (1, .ref (a 0)), (2, .ref (bb 0)), (3, .ref o), (4, .int (nI i))]) hx hb dL_law_862 hl (Nat.le_of_ble_eq_true rfl) rfl (fun ls hl => ?_)
  refine lv_aload_n hx hb dL_law_864 rfl (lv_at hl 4 rfl) ?_
  refine rcVf (st1 := [.int (fX2_thrown ((gX2_withMonth T p0 p1).2))]) (as := []) (rest := []) (cl := RX2) C (c_X2_thrown l G bb ((gX2_withMonth T p0 p1).2)) F_X2_thrown rfl bw1200 bw1201 (hw _ bw1202) (hE.S hS hAB) (P_hd hP) (rv4 hE.K (P_hd hP) (q0 := 0) rfl) hl.1 dL_law_865 ⟨Nat.le_of_ble_eq_true rfl, Nat.le_of_ble_eq_true rfl⟩ rfl (Nat.le_of_ble_eq_true rfl) hf3 rfl ?_
  refine k_foldi (y := c9) hc9.1 ?_
  refine lv_iload hx hb dL_law_868 (lv_at hl 1 rfl) ?_
  refine lv_icmp_eq (tgt := 875) hx hb dL_law_870 (by decide) (fun _ => ?_) (fun c_x => absurd rfl c_x)
  refine lv_iload hx hb dL_law_875 (lv_at hl 1 rfl) ?_
  refine lv_if_ne (tgt := 893) hx hb dL_law_877 (by decide) (fun c_1 => ?_) (fun c_1 => ?_)
  · refine lv_goto (tgt := 3946) hx hb dL_law_893 (by decide) ?_
    refine W.widen (k := cells + 200) (n := slots + 5000) (by first | exact Nat.le_of_eq (Nat.add_assoc _ _ _) | omega) (by first | exact Nat.le_of_eq (Nat.add_assoc _ _ _) | omega) ?_
    exact kk n9 sv9 S9 ((gX2_withMonth T p0 p1).2) _ _ ls (rel_withMonth hR h9) hP hD hS (lv_sub hl [2, 3, 4, 5, 6] rfl)
  · refine lv_aload_n hx hb dL_law_880 rfl (lv_at hl 5 rfl) ?_
    refine va_getN (D := gD G) (cl := vwCl) (tys := gT G) (ci := 3) (v := .long n9) (C := RX1) (T := TX1) (N := 2) hx hb hw inB_X1 hown hE.K hP 5 rfl rfl 0 (by decide) (va_Nw.use rfl hN.2.1) (fun _ h9 => h9) rfl dL_law_881 ?_
    refine lv_iload hx hb dL_law_884 (lv_at hl 0 rfl) ?_
    refine lv_i2l (v := (((gX2_withMonth T p0 p1).1).toInt64)) hx hb dL_law_886 (by first | rfl | decide) ?_
    refine W.lcmp hx hb dL_law_887 ?_
    refine lv_if_eq (tgt := 893) hx hb dL_law_888 (by decide) (fun _ => ?_) (fun c_x => absurd (lgc_eq.mpr (by rw [hc9.2 c_1])) c_x)
    refine lv_goto (tgt := 3946) hx hb dL_law_893 (by decide) ?_
    refine W.widen (k := cells + 200) (n := slots + 5000) (by first | exact Nat.le_of_eq (Nat.add_assoc _ _ _) | omega) (by first | exact Nat.le_of_eq (Nat.add_assoc _ _ _) | omega) ?_
    exact kk n9 sv9 S9 ((gX2_withMonth T p0 p1).2) _ _ ls (rel_withMonth hR h9) hP hD hS (lv_sub hl [2, 3, 4, 5, 6] rfl)

set_option maxRecDepth 100000 in
set_option maxHeartbeats 4000000 in
theorem case_withDayOfMonth {p : Program} {l : Launch} {e : Env} {s : State} {m : MethodId} {below : List Frame} {meth : Method} {c : Code} {Q : State → Prop} {G : GT} {b9 L9 : Nat} {xs : Nat → Int32} {a bb : Nat → Nat} {o : Nat} (Z : LW p l s m meth c G b9 L9 xs) {i cells slots : Nat} (hi : i + 6 ≤ L9) (hf : cells + 200 ≤ room_1.cells ∧ slots + 5000 ≤ room_1.slots) {n : Int64} {sv : Value} {S : SX} {T : SM} (hR : Rel S T) {H : Heap} {locs : List Loc} {ls : Array Slot} (hP : va_P (gD G) vwCl (wM G bb T ++ wH G a o n sv S) H) (hD : va_D (fun q : Nat => s.heap.size ≤ q) (wM G bb T ++ wH G a o n sv S)) (hS : va_S (fun q : Nat => s.heap.size ≤ q) s.heap H locs) (hl : lv_has ls 7 [(0, .ref b9), (1, .ref (a 0)), (2, .ref (bb 0)), (3, .ref o), (4, .int (nI i))]) (kk : ∀ (n : Int64) (sv : Value) (S : SX) (T : SM) (H : Heap) (locs : List Loc) (ls : Array Slot), Rel S T → va_P (gD G) vwCl (wM G bb T ++ wH G a o n sv S) H → va_D (fun q : Nat => s.heap.size ≤ q) (wM G bb T ++ wH G a o n sv S) → va_S (fun q : Nat => s.heap.size ≤ q) s.heap H locs → lv_has ls 7 [(0, .ref b9), (1, .ref (a 0)), (2, .ref (bb 0)), (3, .ref o), (4, .int (nI i))] → W p l e room_1 s m #[Value.ref b9] below meth c H locs (cells + 200) (slots + 5000) Q (F0 m 3946 ls [])) : W p l e room_1 s m #[Value.ref b9] below meth c H locs (cells) (slots) Q (F0 m 896 ls []) := by
  obtain ⟨C, hE, hN, hX, hbl, hl9, hL9, hA, hAB, hbA⟩ := Z
  have hx := C.1
  have hb := C.2.1
  have hml := C.2.2.1
  have hown := C.2.2.2.1
  have hw := C.2.2.2.2
  obtain ⟨hf0, hf1, hf2⟩ := lw_hf hf
  have hf3 := hf2
  obtain ⟨p0, hp0⟩ : ∃ y : Int32, xs (nI (i + 1)).toNatClampNeg = y := ⟨_, rfl⟩
  obtain ⟨p1, hp1⟩ : ∃ y : Int32, xs (nI (i + 2)).toNatClampNeg = y := ⟨_, rfl⟩
  refine lv_aload_n hx hb dL_law_896 rfl (lv_at hl 1 rfl) ?_
  refine lv_aload_n hx hb dL_law_897 rfl (lv_at hl 0 rfl) ?_
  refine lv_iload hx hb dL_law_898 (lv_at hl 4 rfl) ?_
  refine lv_iconst (v := (1 : Int32)) hx hb dL_law_900 qi_1 ?_
  refine lv_iadd hx hb dL_law_901 ?_
  refine k_foldi (y := (nI (i + 1))) (nI_add i 1) ?_
  refine va_sld hx hb hX hbl hbA hS (lw_in hi hL9 rfl) dL_law_902 ?_
  refine k_foldi (y := p0) hp0 ?_
  refine lv_aload_n hx hb dL_law_903 rfl (lv_at hl 0 rfl) ?_
  refine lv_iload hx hb dL_law_904 (lv_at hl 4 rfl) ?_
  refine lv_iconst (v := (2 : Int32)) hx hb dL_law_906 qi_2 ?_
  refine lv_iadd hx hb dL_law_907 ?_
  refine k_foldi (y := (nI (i + 2))) (nI_add i 2) ?_
  refine va_sld hx hb hX hbl hbA hS (lw_in hi hL9 rfl) dL_law_908 ?_
  refine k_foldi (y := p1) hp1 ?_
  refine lv_aload_n hx hb dL_law_909 rfl (lv_at hl 3 rfl) ?_
  refine lwHelp (n := 4) (wr := (wM G bb T)) (wd := (wH G a o n sv S)) (as := [.ref (a 0), .int p0, .int p1, .ref o]) (rest := []) C (k_withDayOfMonth l hl9 G a o n sv S p0 p1) bw484 bw56 (by decide +kernel) rfl bw482 bw483 hN (hE.S hS hAB) hP hD hS hA hAB hl.1 dL_law_910 ⟨(Nat.le_of_ble_eq_true rfl), (Nat.le_of_ble_eq_true rfl)⟩ rfl (Nat.le_of_ble_eq_true rfl) hf1 (fun r9 wd9 H locs hp9 hP hD hS => ?_)
  obtain ⟨c9, n9, sv9, S9, rfl, rfl, h9⟩ := hp9
  refine W.eq (g2 := F0 m 913 ls [.int c9]) rfl ?_
  refine lv_istore (lv' := [(5, .int c9), (0, .ref b9), (1, .ref (a 0)), (2, .ref (bb 0)), (3, .ref o), (4, .int (nI i))]) hx hb dL_law_913 hl (Nat.le_of_ble_eq_true rfl) rfl (fun ls hl => ?_)
  refine lv_aload_n hx hb dL_law_915 rfl (lv_at hl 3 rfl) ?_
  refine lv_aload_n hx hb dL_law_916 rfl (lv_at hl 1 rfl) ?_
  refine lv_iload hx hb dL_law_917 (lv_at hl 5 rfl) ?_
  refine lv_iconst (v := (1 : Int32)) hx hb dL_law_919 qi_1 ?_
  refine lv_iadd hx hb dL_law_920 ?_
  refine k_foldi (y := (nI (i + 1))) (nI_add i 1) ?_
  refine va_sld hx hb hX hbl hbA hS (lw_in hi hL9 rfl) dL_law_921 ?_
  refine k_foldi (y := p0) hp0 ?_
  refine lv_aload_n hx hb dL_law_922 rfl (lv_at hl 1 rfl) ?_
  refine lv_iload hx hb dL_law_923 (lv_at hl 5 rfl) ?_
  refine lv_iconst (v := (2 : Int32)) hx hb dL_law_925 qi_2 ?_
  refine lv_iadd hx hb dL_law_926 ?_
  refine k_foldi (y := (nI (i + 2))) (nI_add i 2) ?_
  refine va_sld hx hb hX hbl hbA hS (lw_in hi hL9 rfl) dL_law_927 ?_
  refine k_foldi (y := p1) hp1 ?_
  refine lwWR (MC := 170) (MS := 4200) (st1 := [.int ((gX2_withDayOfMonth T p0 p1).1)]) (wr := (wH G a o n9 sv9 S9)) (wd := (wM G bb T)) (as := [.int p0, .int p1]) (rest := []) (cl := RX2) (Nat.le_of_ble_eq_true rfl) (Nat.le_of_ble_eq_true rfl) C (c_X2_withDayOfMonth l G bb T p0 p1 (Rel.mo hR)) F_X2_withDayOfMonth rfl bw1319 bw1320 bw1321 (hE.S hS hAB) hP hD hS hA hAB (rv4 hE.K (P_tl (wr := (wH G a o n9 sv9 S9)) hP) (q0 := 0) rfl) hl.1 dL_law_928 ⟨(Nat.le_of_ble_eq_true rfl), (Nat.le_of_ble_eq_true rfl)⟩ rfl (Nat.le_of_ble_eq_true rfl) hf2 rfl (fun H locs hP hD hS => ?_)
  have hc9 := cmp_withDayOfMonth hR h9
  refine lv_istore (lv' := [(6, .int ((gX2_withDayOfMonth T p0 p1).1)), (5, .int c9), (0, .ref b9), (1, .ref (a 0)), (2, .ref (bb 0)), (3, .ref o), (4, .int (nI i))]) hx hb dL_law_931 hl (Nat.le_of_ble_eq_true rfl) rfl (fun ls hl => ?_)
  refine lv_aload_n hx hb dL_law_933 rfl (lv_at hl 4 rfl) ?_
  refine rcVf (st1 := [.int (fX2_thrown ((gX2_withDayOfMonth T p0 p1).2))]) (as := []) (rest := []) (cl := RX2) C (c_X2_thrown l G bb ((gX2_withDayOfMonth T p0 p1).2)) F_X2_thrown rfl bw1200 bw1201 (hw _ bw1202) (hE.S hS hAB) (P_hd hP) (rv4 hE.K (P_hd hP) (q0 := 0) rfl) hl.1 dL_law_934 ⟨Nat.le_of_ble_eq_true rfl, Nat.le_of_ble_eq_true rfl⟩ rfl (Nat.le_of_ble_eq_true rfl) hf3 rfl ?_
  refine k_foldi (y := c9) hc9.1 ?_
  refine lv_iload hx hb dL_law_937 (lv_at hl 1 rfl) ?_
  refine lv_icmp_eq (tgt := 944) hx hb dL_law_939 (by decide) (fun _ => ?_) (fun c_x => absurd rfl c_x)
  refine lv_iload hx hb dL_law_944 (lv_at hl 1 rfl) ?_
  refine lv_if_ne (tgt := 962) hx hb dL_law_946 (by decide) (fun c_1 => ?_) (fun c_1 => ?_)
  · refine lv_goto (tgt := 3946) hx hb dL_law_962 (by decide) ?_
    refine W.widen (k := cells + 200) (n := slots + 5000) (by first | exact Nat.le_of_eq (Nat.add_assoc _ _ _) | omega) (by first | exact Nat.le_of_eq (Nat.add_assoc _ _ _) | omega) ?_
    exact kk n9 sv9 S9 ((gX2_withDayOfMonth T p0 p1).2) _ _ ls (rel_withDayOfMonth hR h9) hP hD hS (lv_sub hl [2, 3, 4, 5, 6] rfl)
  · refine lv_aload_n hx hb dL_law_949 rfl (lv_at hl 5 rfl) ?_
    refine va_getN (D := gD G) (cl := vwCl) (tys := gT G) (ci := 3) (v := .long n9) (C := RX1) (T := TX1) (N := 2) hx hb hw inB_X1 hown hE.K hP 5 rfl rfl 0 (by decide) (va_Nw.use rfl hN.2.1) (fun _ h9 => h9) rfl dL_law_950 ?_
    refine lv_iload hx hb dL_law_953 (lv_at hl 0 rfl) ?_
    refine lv_i2l (v := (((gX2_withDayOfMonth T p0 p1).1).toInt64)) hx hb dL_law_955 (by first | rfl | decide) ?_
    refine W.lcmp hx hb dL_law_956 ?_
    refine lv_if_eq (tgt := 962) hx hb dL_law_957 (by decide) (fun _ => ?_) (fun c_x => absurd (lgc_eq.mpr (by rw [hc9.2 c_1])) c_x)
    refine lv_goto (tgt := 3946) hx hb dL_law_962 (by decide) ?_
    refine W.widen (k := cells + 200) (n := slots + 5000) (by first | exact Nat.le_of_eq (Nat.add_assoc _ _ _) | omega) (by first | exact Nat.le_of_eq (Nat.add_assoc _ _ _) | omega) ?_
    exact kk n9 sv9 S9 ((gX2_withDayOfMonth T p0 p1).2) _ _ ls (rel_withDayOfMonth hR h9) hP hD hS (lv_sub hl [2, 3, 4, 5, 6] rfl)

set_option maxRecDepth 100000 in
set_option maxHeartbeats 4000000 in
theorem case_withDayOfYear {p : Program} {l : Launch} {e : Env} {s : State} {m : MethodId} {below : List Frame} {meth : Method} {c : Code} {Q : State → Prop} {G : GT} {b9 L9 : Nat} {xs : Nat → Int32} {a bb : Nat → Nat} {o : Nat} (Z : LW p l s m meth c G b9 L9 xs) {i cells slots : Nat} (hi : i + 6 ≤ L9) (hf : cells + 200 ≤ room_1.cells ∧ slots + 5000 ≤ room_1.slots) {n : Int64} {sv : Value} {S : SX} {T : SM} (hR : Rel S T) {H : Heap} {locs : List Loc} {ls : Array Slot} (hP : va_P (gD G) vwCl (wM G bb T ++ wH G a o n sv S) H) (hD : va_D (fun q : Nat => s.heap.size ≤ q) (wM G bb T ++ wH G a o n sv S)) (hS : va_S (fun q : Nat => s.heap.size ≤ q) s.heap H locs) (hl : lv_has ls 7 [(0, .ref b9), (1, .ref (a 0)), (2, .ref (bb 0)), (3, .ref o), (4, .int (nI i))]) (kk : ∀ (n : Int64) (sv : Value) (S : SX) (T : SM) (H : Heap) (locs : List Loc) (ls : Array Slot), Rel S T → va_P (gD G) vwCl (wM G bb T ++ wH G a o n sv S) H → va_D (fun q : Nat => s.heap.size ≤ q) (wM G bb T ++ wH G a o n sv S) → va_S (fun q : Nat => s.heap.size ≤ q) s.heap H locs → lv_has ls 7 [(0, .ref b9), (1, .ref (a 0)), (2, .ref (bb 0)), (3, .ref o), (4, .int (nI i))] → W p l e room_1 s m #[Value.ref b9] below meth c H locs (cells + 200) (slots + 5000) Q (F0 m 3946 ls [])) : W p l e room_1 s m #[Value.ref b9] below meth c H locs (cells) (slots) Q (F0 m 965 ls []) := by
  obtain ⟨C, hE, hN, hX, hbl, hl9, hL9, hA, hAB, hbA⟩ := Z
  have hx := C.1
  have hb := C.2.1
  have hml := C.2.2.1
  have hown := C.2.2.2.1
  have hw := C.2.2.2.2
  obtain ⟨hf0, hf1, hf2⟩ := lw_hf hf
  have hf3 := hf2
  obtain ⟨p0, hp0⟩ : ∃ y : Int32, xs (nI (i + 1)).toNatClampNeg = y := ⟨_, rfl⟩
  obtain ⟨p1, hp1⟩ : ∃ y : Int32, xs (nI (i + 2)).toNatClampNeg = y := ⟨_, rfl⟩
  refine lv_aload_n hx hb dL_law_965 rfl (lv_at hl 1 rfl) ?_
  refine lv_aload_n hx hb dL_law_966 rfl (lv_at hl 0 rfl) ?_
  refine lv_iload hx hb dL_law_967 (lv_at hl 4 rfl) ?_
  refine lv_iconst (v := (1 : Int32)) hx hb dL_law_969 qi_1 ?_
  refine lv_iadd hx hb dL_law_970 ?_
  refine k_foldi (y := (nI (i + 1))) (nI_add i 1) ?_
  refine va_sld hx hb hX hbl hbA hS (lw_in hi hL9 rfl) dL_law_971 ?_
  refine k_foldi (y := p0) hp0 ?_
  refine lv_aload_n hx hb dL_law_972 rfl (lv_at hl 0 rfl) ?_
  refine lv_iload hx hb dL_law_973 (lv_at hl 4 rfl) ?_
  refine lv_iconst (v := (2 : Int32)) hx hb dL_law_975 qi_2 ?_
  refine lv_iadd hx hb dL_law_976 ?_
  refine k_foldi (y := (nI (i + 2))) (nI_add i 2) ?_
  refine va_sld hx hb hX hbl hbA hS (lw_in hi hL9 rfl) dL_law_977 ?_
  refine k_foldi (y := p1) hp1 ?_
  refine lv_aload_n hx hb dL_law_978 rfl (lv_at hl 3 rfl) ?_
  refine lwHelp (n := 4) (wr := (wM G bb T)) (wd := (wH G a o n sv S)) (as := [.ref (a 0), .int p0, .int p1, .ref o]) (rest := []) C (k_withDayOfYear l hl9 G a o n sv S p0 p1) bw491 bw56 (by decide +kernel) rfl bw489 bw490 hN (hE.S hS hAB) hP hD hS hA hAB hl.1 dL_law_979 ⟨(Nat.le_of_ble_eq_true rfl), (Nat.le_of_ble_eq_true rfl)⟩ rfl (Nat.le_of_ble_eq_true rfl) hf1 (fun r9 wd9 H locs hp9 hP hD hS => ?_)
  obtain ⟨c9, n9, sv9, S9, rfl, rfl, h9⟩ := hp9
  refine W.eq (g2 := F0 m 982 ls [.int c9]) rfl ?_
  refine lv_istore (lv' := [(5, .int c9), (0, .ref b9), (1, .ref (a 0)), (2, .ref (bb 0)), (3, .ref o), (4, .int (nI i))]) hx hb dL_law_982 hl (Nat.le_of_ble_eq_true rfl) rfl (fun ls hl => ?_)
  refine lv_aload_n hx hb dL_law_984 rfl (lv_at hl 3 rfl) ?_
  refine lv_aload_n hx hb dL_law_985 rfl (lv_at hl 1 rfl) ?_
  refine lv_iload hx hb dL_law_986 (lv_at hl 5 rfl) ?_
  refine lv_iconst (v := (1 : Int32)) hx hb dL_law_988 qi_1 ?_
  refine lv_iadd hx hb dL_law_989 ?_
  refine k_foldi (y := (nI (i + 1))) (nI_add i 1) ?_
  refine va_sld hx hb hX hbl hbA hS (lw_in hi hL9 rfl) dL_law_990 ?_
  refine k_foldi (y := p0) hp0 ?_
  refine lv_aload_n hx hb dL_law_991 rfl (lv_at hl 1 rfl) ?_
  refine lv_iload hx hb dL_law_992 (lv_at hl 5 rfl) ?_
  refine lv_iconst (v := (2 : Int32)) hx hb dL_law_994 qi_2 ?_
  refine lv_iadd hx hb dL_law_995 ?_
  refine k_foldi (y := (nI (i + 2))) (nI_add i 2) ?_
  refine va_sld hx hb hX hbl hbA hS (lw_in hi hL9 rfl) dL_law_996 ?_
  refine k_foldi (y := p1) hp1 ?_
  refine lwWR (MC := 170) (MS := 4200) (st1 := [.int ((gX2_withDayOfYear T p0 p1).1)]) (wr := (wH G a o n9 sv9 S9)) (wd := (wM G bb T)) (as := [.int p0, .int p1]) (rest := []) (cl := RX2) (Nat.le_of_ble_eq_true rfl) (Nat.le_of_ble_eq_true rfl) C (c_X2_withDayOfYear l G bb T p0 p1 (Rel.mo hR)) F_X2_withDayOfYear rfl bw1323 bw1324 bw1325 (hE.S hS hAB) hP hD hS hA hAB (rv4 hE.K (P_tl (wr := (wH G a o n9 sv9 S9)) hP) (q0 := 0) rfl) hl.1 dL_law_997 ⟨(Nat.le_of_ble_eq_true rfl), (Nat.le_of_ble_eq_true rfl)⟩ rfl (Nat.le_of_ble_eq_true rfl) hf2 rfl (fun H locs hP hD hS => ?_)
  have hc9 := cmp_withDayOfYear hR h9
  refine lv_istore (lv' := [(6, .int ((gX2_withDayOfYear T p0 p1).1)), (5, .int c9), (0, .ref b9), (1, .ref (a 0)), (2, .ref (bb 0)), (3, .ref o), (4, .int (nI i))]) hx hb dL_law_1000 hl (Nat.le_of_ble_eq_true rfl) rfl (fun ls hl => ?_)
  refine lv_aload_n hx hb dL_law_1002 rfl (lv_at hl 4 rfl) ?_
  refine rcVf (st1 := [.int (fX2_thrown ((gX2_withDayOfYear T p0 p1).2))]) (as := []) (rest := []) (cl := RX2) C (c_X2_thrown l G bb ((gX2_withDayOfYear T p0 p1).2)) F_X2_thrown rfl bw1200 bw1201 (hw _ bw1202) (hE.S hS hAB) (P_hd hP) (rv4 hE.K (P_hd hP) (q0 := 0) rfl) hl.1 dL_law_1003 ⟨Nat.le_of_ble_eq_true rfl, Nat.le_of_ble_eq_true rfl⟩ rfl (Nat.le_of_ble_eq_true rfl) hf3 rfl ?_
  refine k_foldi (y := c9) hc9.1 ?_
  refine lv_iload hx hb dL_law_1006 (lv_at hl 1 rfl) ?_
  refine lv_icmp_eq (tgt := 1013) hx hb dL_law_1008 (by decide) (fun _ => ?_) (fun c_x => absurd rfl c_x)
  refine lv_iload hx hb dL_law_1013 (lv_at hl 1 rfl) ?_
  refine lv_if_ne (tgt := 1031) hx hb dL_law_1015 (by decide) (fun c_1 => ?_) (fun c_1 => ?_)
  · refine lv_goto (tgt := 3946) hx hb dL_law_1031 (by decide) ?_
    refine W.widen (k := cells + 200) (n := slots + 5000) (by first | exact Nat.le_of_eq (Nat.add_assoc _ _ _) | omega) (by first | exact Nat.le_of_eq (Nat.add_assoc _ _ _) | omega) ?_
    exact kk n9 sv9 S9 ((gX2_withDayOfYear T p0 p1).2) _ _ ls (rel_withDayOfYear hR h9) hP hD hS (lv_sub hl [2, 3, 4, 5, 6] rfl)
  · refine lv_aload_n hx hb dL_law_1018 rfl (lv_at hl 5 rfl) ?_
    refine va_getN (D := gD G) (cl := vwCl) (tys := gT G) (ci := 3) (v := .long n9) (C := RX1) (T := TX1) (N := 2) hx hb hw inB_X1 hown hE.K hP 5 rfl rfl 0 (by decide) (va_Nw.use rfl hN.2.1) (fun _ h9 => h9) rfl dL_law_1019 ?_
    refine lv_iload hx hb dL_law_1022 (lv_at hl 0 rfl) ?_
    refine lv_i2l (v := (((gX2_withDayOfYear T p0 p1).1).toInt64)) hx hb dL_law_1024 (by first | rfl | decide) ?_
    refine W.lcmp hx hb dL_law_1025 ?_
    refine lv_if_eq (tgt := 1031) hx hb dL_law_1026 (by decide) (fun _ => ?_) (fun c_x => absurd (lgc_eq.mpr (by rw [hc9.2 c_1])) c_x)
    refine lv_goto (tgt := 3946) hx hb dL_law_1031 (by decide) ?_
    refine W.widen (k := cells + 200) (n := slots + 5000) (by first | exact Nat.le_of_eq (Nat.add_assoc _ _ _) | omega) (by first | exact Nat.le_of_eq (Nat.add_assoc _ _ _) | omega) ?_
    exact kk n9 sv9 S9 ((gX2_withDayOfYear T p0 p1).2) _ _ ls (rel_withDayOfYear hR h9) hP hD hS (lv_sub hl [2, 3, 4, 5, 6] rfl)

set_option maxRecDepth 100000 in
set_option maxHeartbeats 4000000 in
theorem case_withHour {p : Program} {l : Launch} {e : Env} {s : State} {m : MethodId} {below : List Frame} {meth : Method} {c : Code} {Q : State → Prop} {G : GT} {b9 L9 : Nat} {xs : Nat → Int32} {a bb : Nat → Nat} {o : Nat} (Z : LW p l s m meth c G b9 L9 xs) {i cells slots : Nat} (hi : i + 6 ≤ L9) (hf : cells + 200 ≤ room_1.cells ∧ slots + 5000 ≤ room_1.slots) {n : Int64} {sv : Value} {S : SX} {T : SM} (hR : Rel S T) {H : Heap} {locs : List Loc} {ls : Array Slot} (hP : va_P (gD G) vwCl (wM G bb T ++ wH G a o n sv S) H) (hD : va_D (fun q : Nat => s.heap.size ≤ q) (wM G bb T ++ wH G a o n sv S)) (hS : va_S (fun q : Nat => s.heap.size ≤ q) s.heap H locs) (hl : lv_has ls 7 [(0, .ref b9), (1, .ref (a 0)), (2, .ref (bb 0)), (3, .ref o), (4, .int (nI i))]) (kk : ∀ (n : Int64) (sv : Value) (S : SX) (T : SM) (H : Heap) (locs : List Loc) (ls : Array Slot), Rel S T → va_P (gD G) vwCl (wM G bb T ++ wH G a o n sv S) H → va_D (fun q : Nat => s.heap.size ≤ q) (wM G bb T ++ wH G a o n sv S) → va_S (fun q : Nat => s.heap.size ≤ q) s.heap H locs → lv_has ls 7 [(0, .ref b9), (1, .ref (a 0)), (2, .ref (bb 0)), (3, .ref o), (4, .int (nI i))] → W p l e room_1 s m #[Value.ref b9] below meth c H locs (cells + 200) (slots + 5000) Q (F0 m 3946 ls [])) : W p l e room_1 s m #[Value.ref b9] below meth c H locs (cells) (slots) Q (F0 m 1034 ls []) := by
  obtain ⟨C, hE, hN, hX, hbl, hl9, hL9, hA, hAB, hbA⟩ := Z
  have hx := C.1
  have hb := C.2.1
  have hml := C.2.2.1
  have hown := C.2.2.2.1
  have hw := C.2.2.2.2
  obtain ⟨hf0, hf1, hf2⟩ := lw_hf hf
  have hf3 := hf2
  obtain ⟨p0, hp0⟩ : ∃ y : Int32, xs (nI (i + 1)).toNatClampNeg = y := ⟨_, rfl⟩
  obtain ⟨p1, hp1⟩ : ∃ y : Int32, xs (nI (i + 2)).toNatClampNeg = y := ⟨_, rfl⟩
  refine lv_aload_n hx hb dL_law_1034 rfl (lv_at hl 1 rfl) ?_
  refine lv_aload_n hx hb dL_law_1035 rfl (lv_at hl 0 rfl) ?_
  refine lv_iload hx hb dL_law_1036 (lv_at hl 4 rfl) ?_
  refine lv_iconst (v := (1 : Int32)) hx hb dL_law_1038 qi_1 ?_
  refine lv_iadd hx hb dL_law_1039 ?_
  refine k_foldi (y := (nI (i + 1))) (nI_add i 1) ?_
  refine va_sld hx hb hX hbl hbA hS (lw_in hi hL9 rfl) dL_law_1040 ?_
  refine k_foldi (y := p0) hp0 ?_
  refine lv_aload_n hx hb dL_law_1041 rfl (lv_at hl 0 rfl) ?_
  refine lv_iload hx hb dL_law_1042 (lv_at hl 4 rfl) ?_
  refine lv_iconst (v := (2 : Int32)) hx hb dL_law_1044 qi_2 ?_
  refine lv_iadd hx hb dL_law_1045 ?_
  refine k_foldi (y := (nI (i + 2))) (nI_add i 2) ?_
  refine va_sld hx hb hX hbl hbA hS (lw_in hi hL9 rfl) dL_law_1046 ?_
  refine k_foldi (y := p1) hp1 ?_
  refine lv_aload_n hx hb dL_law_1047 rfl (lv_at hl 3 rfl) ?_
  refine lwHelp (n := 4) (wr := (wM G bb T)) (wd := (wH G a o n sv S)) (as := [.ref (a 0), .int p0, .int p1, .ref o]) (rest := []) C (k_withHour l hl9 G a o n sv S p0 p1) bw501 bw56 (by decide +kernel) rfl bw499 bw500 hN (hE.S hS hAB) hP hD hS hA hAB hl.1 dL_law_1048 ⟨(Nat.le_of_ble_eq_true rfl), (Nat.le_of_ble_eq_true rfl)⟩ rfl (Nat.le_of_ble_eq_true rfl) hf1 (fun r9 wd9 H locs hp9 hP hD hS => ?_)
  obtain ⟨c9, n9, sv9, S9, rfl, rfl, h9⟩ := hp9
  refine W.eq (g2 := F0 m 1051 ls [.int c9]) rfl ?_
  refine lv_istore (lv' := [(5, .int c9), (0, .ref b9), (1, .ref (a 0)), (2, .ref (bb 0)), (3, .ref o), (4, .int (nI i))]) hx hb dL_law_1051 hl (Nat.le_of_ble_eq_true rfl) rfl (fun ls hl => ?_)
  refine lv_aload_n hx hb dL_law_1053 rfl (lv_at hl 3 rfl) ?_
  refine lv_aload_n hx hb dL_law_1054 rfl (lv_at hl 1 rfl) ?_
  refine lv_iload hx hb dL_law_1055 (lv_at hl 5 rfl) ?_
  refine lv_iconst (v := (1 : Int32)) hx hb dL_law_1057 qi_1 ?_
  refine lv_iadd hx hb dL_law_1058 ?_
  refine k_foldi (y := (nI (i + 1))) (nI_add i 1) ?_
  refine va_sld hx hb hX hbl hbA hS (lw_in hi hL9 rfl) dL_law_1059 ?_
  refine k_foldi (y := p0) hp0 ?_
  refine lv_aload_n hx hb dL_law_1060 rfl (lv_at hl 1 rfl) ?_
  refine lv_iload hx hb dL_law_1061 (lv_at hl 5 rfl) ?_
  refine lv_iconst (v := (2 : Int32)) hx hb dL_law_1063 qi_2 ?_
  refine lv_iadd hx hb dL_law_1064 ?_
  refine k_foldi (y := (nI (i + 2))) (nI_add i 2) ?_
  refine va_sld hx hb hX hbl hbA hS (lw_in hi hL9 rfl) dL_law_1065 ?_
  refine k_foldi (y := p1) hp1 ?_
  refine lwWR (MC := 170) (MS := 4200) (st1 := [.int ((gX2_withHour T p0 p1).1)]) (wr := (wH G a o n9 sv9 S9)) (wd := (wM G bb T)) (as := [.int p0, .int p1]) (rest := []) (cl := RX2) (Nat.le_of_ble_eq_true rfl) (Nat.le_of_ble_eq_true rfl) C (c_X2_withHour l G bb T p0 p1 (Rel.mo hR)) F_X2_withHour rfl bw1327 bw1328 bw1329 (hE.S hS hAB) hP hD hS hA hAB (rv4 hE.K (P_tl (wr := (wH G a o n9 sv9 S9)) hP) (q0 := 0) rfl) hl.1 dL_law_1066 ⟨(Nat.le_of_ble_eq_true rfl), (Nat.le_of_ble_eq_true rfl)⟩ rfl (Nat.le_of_ble_eq_true rfl) hf2 rfl (fun H locs hP hD hS => ?_)
  have hc9 := cmp_withHour hR h9
  refine lv_istore (lv' := [(6, .int ((gX2_withHour T p0 p1).1)), (5, .int c9), (0, .ref b9), (1, .ref (a 0)), (2, .ref (bb 0)), (3, .ref o), (4, .int (nI i))]) hx hb dL_law_1069 hl (Nat.le_of_ble_eq_true rfl) rfl (fun ls hl => ?_)
  refine lv_aload_n hx hb dL_law_1071 rfl (lv_at hl 4 rfl) ?_
  refine rcVf (st1 := [.int (fX2_thrown ((gX2_withHour T p0 p1).2))]) (as := []) (rest := []) (cl := RX2) C (c_X2_thrown l G bb ((gX2_withHour T p0 p1).2)) F_X2_thrown rfl bw1200 bw1201 (hw _ bw1202) (hE.S hS hAB) (P_hd hP) (rv4 hE.K (P_hd hP) (q0 := 0) rfl) hl.1 dL_law_1072 ⟨Nat.le_of_ble_eq_true rfl, Nat.le_of_ble_eq_true rfl⟩ rfl (Nat.le_of_ble_eq_true rfl) hf3 rfl ?_
  refine k_foldi (y := c9) hc9.1 ?_
  refine lv_iload hx hb dL_law_1075 (lv_at hl 1 rfl) ?_
  refine lv_icmp_eq (tgt := 1082) hx hb dL_law_1077 (by decide) (fun _ => ?_) (fun c_x => absurd rfl c_x)
  refine lv_iload hx hb dL_law_1082 (lv_at hl 1 rfl) ?_
  refine lv_if_ne (tgt := 1100) hx hb dL_law_1084 (by decide) (fun c_1 => ?_) (fun c_1 => ?_)
  · refine lv_goto (tgt := 3946) hx hb dL_law_1100 (by decide) ?_
    refine W.widen (k := cells + 200) (n := slots + 5000) (by first | exact Nat.le_of_eq (Nat.add_assoc _ _ _) | omega) (by first | exact Nat.le_of_eq (Nat.add_assoc _ _ _) | omega) ?_
    exact kk n9 sv9 S9 ((gX2_withHour T p0 p1).2) _ _ ls (rel_withHour hR h9) hP hD hS (lv_sub hl [2, 3, 4, 5, 6] rfl)
  · refine lv_aload_n hx hb dL_law_1087 rfl (lv_at hl 5 rfl) ?_
    refine va_getN (D := gD G) (cl := vwCl) (tys := gT G) (ci := 3) (v := .long n9) (C := RX1) (T := TX1) (N := 2) hx hb hw inB_X1 hown hE.K hP 5 rfl rfl 0 (by decide) (va_Nw.use rfl hN.2.1) (fun _ h9 => h9) rfl dL_law_1088 ?_
    refine lv_iload hx hb dL_law_1091 (lv_at hl 0 rfl) ?_
    refine lv_i2l (v := (((gX2_withHour T p0 p1).1).toInt64)) hx hb dL_law_1093 (by first | rfl | decide) ?_
    refine W.lcmp hx hb dL_law_1094 ?_
    refine lv_if_eq (tgt := 1100) hx hb dL_law_1095 (by decide) (fun _ => ?_) (fun c_x => absurd (lgc_eq.mpr (by rw [hc9.2 c_1])) c_x)
    refine lv_goto (tgt := 3946) hx hb dL_law_1100 (by decide) ?_
    refine W.widen (k := cells + 200) (n := slots + 5000) (by first | exact Nat.le_of_eq (Nat.add_assoc _ _ _) | omega) (by first | exact Nat.le_of_eq (Nat.add_assoc _ _ _) | omega) ?_
    exact kk n9 sv9 S9 ((gX2_withHour T p0 p1).2) _ _ ls (rel_withHour hR h9) hP hD hS (lv_sub hl [2, 3, 4, 5, 6] rfl)

set_option maxRecDepth 100000 in
set_option maxHeartbeats 4000000 in
theorem case_withMinute {p : Program} {l : Launch} {e : Env} {s : State} {m : MethodId} {below : List Frame} {meth : Method} {c : Code} {Q : State → Prop} {G : GT} {b9 L9 : Nat} {xs : Nat → Int32} {a bb : Nat → Nat} {o : Nat} (Z : LW p l s m meth c G b9 L9 xs) {i cells slots : Nat} (hi : i + 6 ≤ L9) (hf : cells + 200 ≤ room_1.cells ∧ slots + 5000 ≤ room_1.slots) {n : Int64} {sv : Value} {S : SX} {T : SM} (hR : Rel S T) {H : Heap} {locs : List Loc} {ls : Array Slot} (hP : va_P (gD G) vwCl (wM G bb T ++ wH G a o n sv S) H) (hD : va_D (fun q : Nat => s.heap.size ≤ q) (wM G bb T ++ wH G a o n sv S)) (hS : va_S (fun q : Nat => s.heap.size ≤ q) s.heap H locs) (hl : lv_has ls 7 [(0, .ref b9), (1, .ref (a 0)), (2, .ref (bb 0)), (3, .ref o), (4, .int (nI i))]) (kk : ∀ (n : Int64) (sv : Value) (S : SX) (T : SM) (H : Heap) (locs : List Loc) (ls : Array Slot), Rel S T → va_P (gD G) vwCl (wM G bb T ++ wH G a o n sv S) H → va_D (fun q : Nat => s.heap.size ≤ q) (wM G bb T ++ wH G a o n sv S) → va_S (fun q : Nat => s.heap.size ≤ q) s.heap H locs → lv_has ls 7 [(0, .ref b9), (1, .ref (a 0)), (2, .ref (bb 0)), (3, .ref o), (4, .int (nI i))] → W p l e room_1 s m #[Value.ref b9] below meth c H locs (cells + 200) (slots + 5000) Q (F0 m 3946 ls [])) : W p l e room_1 s m #[Value.ref b9] below meth c H locs (cells) (slots) Q (F0 m 1103 ls []) := by
  obtain ⟨C, hE, hN, hX, hbl, hl9, hL9, hA, hAB, hbA⟩ := Z
  have hx := C.1
  have hb := C.2.1
  have hml := C.2.2.1
  have hown := C.2.2.2.1
  have hw := C.2.2.2.2
  obtain ⟨hf0, hf1, hf2⟩ := lw_hf hf
  have hf3 := hf2
  obtain ⟨p0, hp0⟩ : ∃ y : Int32, xs (nI (i + 1)).toNatClampNeg = y := ⟨_, rfl⟩
  obtain ⟨p1, hp1⟩ : ∃ y : Int32, xs (nI (i + 2)).toNatClampNeg = y := ⟨_, rfl⟩
  refine lv_aload_n hx hb dL_law_1103 rfl (lv_at hl 1 rfl) ?_
  refine lv_aload_n hx hb dL_law_1104 rfl (lv_at hl 0 rfl) ?_
  refine lv_iload hx hb dL_law_1105 (lv_at hl 4 rfl) ?_
  refine lv_iconst (v := (1 : Int32)) hx hb dL_law_1107 qi_1 ?_
  refine lv_iadd hx hb dL_law_1108 ?_
  refine k_foldi (y := (nI (i + 1))) (nI_add i 1) ?_
  refine va_sld hx hb hX hbl hbA hS (lw_in hi hL9 rfl) dL_law_1109 ?_
  refine k_foldi (y := p0) hp0 ?_
  refine lv_aload_n hx hb dL_law_1110 rfl (lv_at hl 0 rfl) ?_
  refine lv_iload hx hb dL_law_1111 (lv_at hl 4 rfl) ?_
  refine lv_iconst (v := (2 : Int32)) hx hb dL_law_1113 qi_2 ?_
  refine lv_iadd hx hb dL_law_1114 ?_
  refine k_foldi (y := (nI (i + 2))) (nI_add i 2) ?_
  refine va_sld hx hb hX hbl hbA hS (lw_in hi hL9 rfl) dL_law_1115 ?_
  refine k_foldi (y := p1) hp1 ?_
  refine lv_aload_n hx hb dL_law_1116 rfl (lv_at hl 3 rfl) ?_
  refine lwHelp (n := 4) (wr := (wM G bb T)) (wd := (wH G a o n sv S)) (as := [.ref (a 0), .int p0, .int p1, .ref o]) (rest := []) C (k_withMinute l hl9 G a o n sv S p0 p1) bw508 bw56 (by decide +kernel) rfl bw506 bw507 hN (hE.S hS hAB) hP hD hS hA hAB hl.1 dL_law_1117 ⟨(Nat.le_of_ble_eq_true rfl), (Nat.le_of_ble_eq_true rfl)⟩ rfl (Nat.le_of_ble_eq_true rfl) hf1 (fun r9 wd9 H locs hp9 hP hD hS => ?_)
  obtain ⟨c9, n9, sv9, S9, rfl, rfl, h9⟩ := hp9
  refine W.eq (g2 := F0 m 1120 ls [.int c9]) rfl ?_
  refine lv_istore (lv' := [(5, .int c9), (0, .ref b9), (1, .ref (a 0)), (2, .ref (bb 0)), (3, .ref o), (4, .int (nI i))]) hx hb dL_law_1120 hl (Nat.le_of_ble_eq_true rfl) rfl (fun ls hl => ?_)
  refine lv_aload_n hx hb dL_law_1122 rfl (lv_at hl 3 rfl) ?_
  refine lv_aload_n hx hb dL_law_1123 rfl (lv_at hl 1 rfl) ?_
  refine lv_iload hx hb dL_law_1124 (lv_at hl 5 rfl) ?_
  refine lv_iconst (v := (1 : Int32)) hx hb dL_law_1126 qi_1 ?_
  refine lv_iadd hx hb dL_law_1127 ?_
  refine k_foldi (y := (nI (i + 1))) (nI_add i 1) ?_
  refine va_sld hx hb hX hbl hbA hS (lw_in hi hL9 rfl) dL_law_1128 ?_
  refine k_foldi (y := p0) hp0 ?_
  refine lv_aload_n hx hb dL_law_1129 rfl (lv_at hl 1 rfl) ?_
  refine lv_iload hx hb dL_law_1130 (lv_at hl 5 rfl) ?_
  refine lv_iconst (v := (2 : Int32)) hx hb dL_law_1132 qi_2 ?_
  refine lv_iadd hx hb dL_law_1133 ?_
  refine k_foldi (y := (nI (i + 2))) (nI_add i 2) ?_
  refine va_sld hx hb hX hbl hbA hS (lw_in hi hL9 rfl) dL_law_1134 ?_
  refine k_foldi (y := p1) hp1 ?_
  refine lwWR (MC := 170) (MS := 4200) (st1 := [.int ((gX2_withMinute T p0 p1).1)]) (wr := (wH G a o n9 sv9 S9)) (wd := (wM G bb T)) (as := [.int p0, .int p1]) (rest := []) (cl := RX2) (Nat.le_of_ble_eq_true rfl) (Nat.le_of_ble_eq_true rfl) C (c_X2_withMinute l G bb T p0 p1 (Rel.mo hR)) F_X2_withMinute rfl bw1337 bw1338 bw1339 (hE.S hS hAB) hP hD hS hA hAB (rv4 hE.K (P_tl (wr := (wH G a o n9 sv9 S9)) hP) (q0 := 0) rfl) hl.1 dL_law_1135 ⟨(Nat.le_of_ble_eq_true rfl), (Nat.le_of_ble_eq_true rfl)⟩ rfl (Nat.le_of_ble_eq_true rfl) hf2 rfl (fun H locs hP hD hS => ?_)
  have hc9 := cmp_withMinute hR h9
  refine lv_istore (lv' := [(6, .int ((gX2_withMinute T p0 p1).1)), (5, .int c9), (0, .ref b9), (1, .ref (a 0)), (2, .ref (bb 0)), (3, .ref o), (4, .int (nI i))]) hx hb dL_law_1138 hl (Nat.le_of_ble_eq_true rfl) rfl (fun ls hl => ?_)
  refine lv_aload_n hx hb dL_law_1140 rfl (lv_at hl 4 rfl) ?_
  refine rcVf (st1 := [.int (fX2_thrown ((gX2_withMinute T p0 p1).2))]) (as := []) (rest := []) (cl := RX2) C (c_X2_thrown l G bb ((gX2_withMinute T p0 p1).2)) F_X2_thrown rfl bw1200 bw1201 (hw _ bw1202) (hE.S hS hAB) (P_hd hP) (rv4 hE.K (P_hd hP) (q0 := 0) rfl) hl.1 dL_law_1141 ⟨Nat.le_of_ble_eq_true rfl, Nat.le_of_ble_eq_true rfl⟩ rfl (Nat.le_of_ble_eq_true rfl) hf3 rfl ?_
  refine k_foldi (y := c9) hc9.1 ?_
  refine lv_iload hx hb dL_law_1144 (lv_at hl 1 rfl) ?_
  refine lv_icmp_eq (tgt := 1151) hx hb dL_law_1146 (by decide) (fun _ => ?_) (fun c_x => absurd rfl c_x)
  refine lv_iload hx hb dL_law_1151 (lv_at hl 1 rfl) ?_
  refine lv_if_ne (tgt := 1169) hx hb dL_law_1153 (by decide) (fun c_1 => ?_) (fun c_1 => ?_)
  · refine lv_goto (tgt := 3946) hx hb dL_law_1169 (by decide) ?_
    refine W.widen (k := cells + 200) (n := slots + 5000) (by first | exact Nat.le_of_eq (Nat.add_assoc _ _ _) | omega) (by first | exact Nat.le_of_eq (Nat.add_assoc _ _ _) | omega) ?_
    exact kk n9 sv9 S9 ((gX2_withMinute T p0 p1).2) _ _ ls (rel_withMinute hR h9) hP hD hS (lv_sub hl [2, 3, 4, 5, 6] rfl)
  · refine lv_aload_n hx hb dL_law_1156 rfl (lv_at hl 5 rfl) ?_
    refine va_getN (D := gD G) (cl := vwCl) (tys := gT G) (ci := 3) (v := .long n9) (C := RX1) (T := TX1) (N := 2) hx hb hw inB_X1 hown hE.K hP 5 rfl rfl 0 (by decide) (va_Nw.use rfl hN.2.1) (fun _ h9 => h9) rfl dL_law_1157 ?_
    refine lv_iload hx hb dL_law_1160 (lv_at hl 0 rfl) ?_
    refine lv_i2l (v := (((gX2_withMinute T p0 p1).1).toInt64)) hx hb dL_law_1162 (by first | rfl | decide) ?_
    refine W.lcmp hx hb dL_law_1163 ?_
    refine lv_if_eq (tgt := 1169) hx hb dL_law_1164 (by decide) (fun _ => ?_) (fun c_x => absurd (lgc_eq.mpr (by rw [hc9.2 c_1])) c_x)
    refine lv_goto (tgt := 3946) hx hb dL_law_1169 (by decide) ?_
    refine W.widen (k := cells + 200) (n := slots + 5000) (by first | exact Nat.le_of_eq (Nat.add_assoc _ _ _) | omega) (by first | exact Nat.le_of_eq (Nat.add_assoc _ _ _) | omega) ?_
    exact kk n9 sv9 S9 ((gX2_withMinute T p0 p1).2) _ _ ls (rel_withMinute hR h9) hP hD hS (lv_sub hl [2, 3, 4, 5, 6] rfl)

set_option maxRecDepth 100000 in
set_option maxHeartbeats 4000000 in
theorem case_withSecond {p : Program} {l : Launch} {e : Env} {s : State} {m : MethodId} {below : List Frame} {meth : Method} {c : Code} {Q : State → Prop} {G : GT} {b9 L9 : Nat} {xs : Nat → Int32} {a bb : Nat → Nat} {o : Nat} (Z : LW p l s m meth c G b9 L9 xs) {i cells slots : Nat} (hi : i + 6 ≤ L9) (hf : cells + 200 ≤ room_1.cells ∧ slots + 5000 ≤ room_1.slots) {n : Int64} {sv : Value} {S : SX} {T : SM} (hR : Rel S T) {H : Heap} {locs : List Loc} {ls : Array Slot} (hP : va_P (gD G) vwCl (wM G bb T ++ wH G a o n sv S) H) (hD : va_D (fun q : Nat => s.heap.size ≤ q) (wM G bb T ++ wH G a o n sv S)) (hS : va_S (fun q : Nat => s.heap.size ≤ q) s.heap H locs) (hl : lv_has ls 7 [(0, .ref b9), (1, .ref (a 0)), (2, .ref (bb 0)), (3, .ref o), (4, .int (nI i))]) (kk : ∀ (n : Int64) (sv : Value) (S : SX) (T : SM) (H : Heap) (locs : List Loc) (ls : Array Slot), Rel S T → va_P (gD G) vwCl (wM G bb T ++ wH G a o n sv S) H → va_D (fun q : Nat => s.heap.size ≤ q) (wM G bb T ++ wH G a o n sv S) → va_S (fun q : Nat => s.heap.size ≤ q) s.heap H locs → lv_has ls 7 [(0, .ref b9), (1, .ref (a 0)), (2, .ref (bb 0)), (3, .ref o), (4, .int (nI i))] → W p l e room_1 s m #[Value.ref b9] below meth c H locs (cells + 200) (slots + 5000) Q (F0 m 3946 ls [])) : W p l e room_1 s m #[Value.ref b9] below meth c H locs (cells) (slots) Q (F0 m 1172 ls []) := by
  obtain ⟨C, hE, hN, hX, hbl, hl9, hL9, hA, hAB, hbA⟩ := Z
  have hx := C.1
  have hb := C.2.1
  have hml := C.2.2.1
  have hown := C.2.2.2.1
  have hw := C.2.2.2.2
  obtain ⟨hf0, hf1, hf2⟩ := lw_hf hf
  have hf3 := hf2
  obtain ⟨p0, hp0⟩ : ∃ y : Int32, xs (nI (i + 1)).toNatClampNeg = y := ⟨_, rfl⟩
  obtain ⟨p1, hp1⟩ : ∃ y : Int32, xs (nI (i + 2)).toNatClampNeg = y := ⟨_, rfl⟩
  refine lv_aload_n hx hb dL_law_1172 rfl (lv_at hl 1 rfl) ?_
  refine lv_aload_n hx hb dL_law_1173 rfl (lv_at hl 0 rfl) ?_
  refine lv_iload hx hb dL_law_1174 (lv_at hl 4 rfl) ?_
  refine lv_iconst (v := (1 : Int32)) hx hb dL_law_1176 qi_1 ?_
  refine lv_iadd hx hb dL_law_1177 ?_
  refine k_foldi (y := (nI (i + 1))) (nI_add i 1) ?_
  refine va_sld hx hb hX hbl hbA hS (lw_in hi hL9 rfl) dL_law_1178 ?_
  refine k_foldi (y := p0) hp0 ?_
  refine lv_aload_n hx hb dL_law_1179 rfl (lv_at hl 0 rfl) ?_
  refine lv_iload hx hb dL_law_1180 (lv_at hl 4 rfl) ?_
  refine lv_iconst (v := (2 : Int32)) hx hb dL_law_1182 qi_2 ?_
  refine lv_iadd hx hb dL_law_1183 ?_
  refine k_foldi (y := (nI (i + 2))) (nI_add i 2) ?_
  refine va_sld hx hb hX hbl hbA hS (lw_in hi hL9 rfl) dL_law_1184 ?_
  refine k_foldi (y := p1) hp1 ?_
  refine lv_aload_n hx hb dL_law_1185 rfl (lv_at hl 3 rfl) ?_
  refine lwHelp (n := 4) (wr := (wM G bb T)) (wd := (wH G a o n sv S)) (as := [.ref (a 0), .int p0, .int p1, .ref o]) (rest := []) C (k_withSecond l hl9 G a o n sv S p0 p1) bw515 bw56 (by decide +kernel) rfl bw513 bw514 hN (hE.S hS hAB) hP hD hS hA hAB hl.1 dL_law_1186 ⟨(Nat.le_of_ble_eq_true rfl), (Nat.le_of_ble_eq_true rfl)⟩ rfl (Nat.le_of_ble_eq_true rfl) hf1 (fun r9 wd9 H locs hp9 hP hD hS => ?_)
  obtain ⟨c9, n9, sv9, S9, rfl, rfl, h9⟩ := hp9
  refine W.eq (g2 := F0 m 1189 ls [.int c9]) rfl ?_
  refine lv_istore (lv' := [(5, .int c9), (0, .ref b9), (1, .ref (a 0)), (2, .ref (bb 0)), (3, .ref o), (4, .int (nI i))]) hx hb dL_law_1189 hl (Nat.le_of_ble_eq_true rfl) rfl (fun ls hl => ?_)
  refine lv_aload_n hx hb dL_law_1191 rfl (lv_at hl 3 rfl) ?_
  refine lv_aload_n hx hb dL_law_1192 rfl (lv_at hl 1 rfl) ?_
  refine lv_iload hx hb dL_law_1193 (lv_at hl 5 rfl) ?_
  refine lv_iconst (v := (1 : Int32)) hx hb dL_law_1195 qi_1 ?_
  refine lv_iadd hx hb dL_law_1196 ?_
  refine k_foldi (y := (nI (i + 1))) (nI_add i 1) ?_
  refine va_sld hx hb hX hbl hbA hS (lw_in hi hL9 rfl) dL_law_1197 ?_
  refine k_foldi (y := p0) hp0 ?_
  refine lv_aload_n hx hb dL_law_1198 rfl (lv_at hl 1 rfl) ?_
  refine lv_iload hx hb dL_law_1199 (lv_at hl 5 rfl) ?_
  refine lv_iconst (v := (2 : Int32)) hx hb dL_law_1201 qi_2 ?_
  refine lv_iadd hx hb dL_law_1202 ?_
  refine k_foldi (y := (nI (i + 2))) (nI_add i 2) ?_
  refine va_sld hx hb hX hbl hbA hS (lw_in hi hL9 rfl) dL_law_1203 ?_
  refine k_foldi (y := p1) hp1 ?_
  refine lwWR (MC := 170) (MS := 4200) (st1 := [.int ((gX2_withSecond T p0 p1).1)]) (wr := (wH G a o n9 sv9 S9)) (wd := (wM G bb T)) (as := [.int p0, .int p1]) (rest := []) (cl := RX2) (Nat.le_of_ble_eq_true rfl) (Nat.le_of_ble_eq_true rfl) C (c_X2_withSecond l G bb T p0 p1 (Rel.mo hR)) F_X2_withSecond rfl bw1342 bw1343 bw1344 (hE.S hS hAB) hP hD hS hA hAB (rv4 hE.K (P_tl (wr := (wH G a o n9 sv9 S9)) hP) (q0 := 0) rfl) hl.1 dL_law_1204 ⟨(Nat.le_of_ble_eq_true rfl), (Nat.le_of_ble_eq_true rfl)⟩ rfl (Nat.le_of_ble_eq_true rfl) hf2 rfl (fun H locs hP hD hS => ?_)
  have hc9 := cmp_withSecond hR h9
  refine lv_istore (lv' := [(6, .int ((gX2_withSecond T p0 p1).1)), (5, .int c9), (0, .ref b9), (1, .ref (a 0)), (2, .ref (bb 0)), (3, .ref o), (4, .int (nI i))]) hx hb dL_law_1207 hl (Nat.le_of_ble_eq_true rfl) rfl (fun ls hl => ?_)
  refine lv_aload_n hx hb dL_law_1209 rfl (lv_at hl 4 rfl) ?_
  refine rcVf (st1 := [.int (fX2_thrown ((gX2_withSecond T p0 p1).2))]) (as := []) (rest := []) (cl := RX2) C (c_X2_thrown l G bb ((gX2_withSecond T p0 p1).2)) F_X2_thrown rfl bw1200 bw1201 (hw _ bw1202) (hE.S hS hAB) (P_hd hP) (rv4 hE.K (P_hd hP) (q0 := 0) rfl) hl.1 dL_law_1210 ⟨Nat.le_of_ble_eq_true rfl, Nat.le_of_ble_eq_true rfl⟩ rfl (Nat.le_of_ble_eq_true rfl) hf3 rfl ?_
  refine k_foldi (y := c9) hc9.1 ?_
  refine lv_iload hx hb dL_law_1213 (lv_at hl 1 rfl) ?_
  refine lv_icmp_eq (tgt := 1220) hx hb dL_law_1215 (by decide) (fun _ => ?_) (fun c_x => absurd rfl c_x)
  refine lv_iload hx hb dL_law_1220 (lv_at hl 1 rfl) ?_
  refine lv_if_ne (tgt := 1238) hx hb dL_law_1222 (by decide) (fun c_1 => ?_) (fun c_1 => ?_)
  · refine lv_goto (tgt := 3946) hx hb dL_law_1238 (by decide) ?_
    refine W.widen (k := cells + 200) (n := slots + 5000) (by first | exact Nat.le_of_eq (Nat.add_assoc _ _ _) | omega) (by first | exact Nat.le_of_eq (Nat.add_assoc _ _ _) | omega) ?_
    exact kk n9 sv9 S9 ((gX2_withSecond T p0 p1).2) _ _ ls (rel_withSecond hR h9) hP hD hS (lv_sub hl [2, 3, 4, 5, 6] rfl)
  · refine lv_aload_n hx hb dL_law_1225 rfl (lv_at hl 5 rfl) ?_
    refine va_getN (D := gD G) (cl := vwCl) (tys := gT G) (ci := 3) (v := .long n9) (C := RX1) (T := TX1) (N := 2) hx hb hw inB_X1 hown hE.K hP 5 rfl rfl 0 (by decide) (va_Nw.use rfl hN.2.1) (fun _ h9 => h9) rfl dL_law_1226 ?_
    refine lv_iload hx hb dL_law_1229 (lv_at hl 0 rfl) ?_
    refine lv_i2l (v := (((gX2_withSecond T p0 p1).1).toInt64)) hx hb dL_law_1231 (by first | rfl | decide) ?_
    refine W.lcmp hx hb dL_law_1232 ?_
    refine lv_if_eq (tgt := 1238) hx hb dL_law_1233 (by decide) (fun _ => ?_) (fun c_x => absurd (lgc_eq.mpr (by rw [hc9.2 c_1])) c_x)
    refine lv_goto (tgt := 3946) hx hb dL_law_1238 (by decide) ?_
    refine W.widen (k := cells + 200) (n := slots + 5000) (by first | exact Nat.le_of_eq (Nat.add_assoc _ _ _) | omega) (by first | exact Nat.le_of_eq (Nat.add_assoc _ _ _) | omega) ?_
    exact kk n9 sv9 S9 ((gX2_withSecond T p0 p1).2) _ _ ls (rel_withSecond hR h9) hP hD hS (lv_sub hl [2, 3, 4, 5, 6] rfl)

set_option maxRecDepth 100000 in
set_option maxHeartbeats 4000000 in
theorem case_withNano {p : Program} {l : Launch} {e : Env} {s : State} {m : MethodId} {below : List Frame} {meth : Method} {c : Code} {Q : State → Prop} {G : GT} {b9 L9 : Nat} {xs : Nat → Int32} {a bb : Nat → Nat} {o : Nat} (Z : LW p l s m meth c G b9 L9 xs) {i cells slots : Nat} (hi : i + 6 ≤ L9) (hf : cells + 200 ≤ room_1.cells ∧ slots + 5000 ≤ room_1.slots) {n : Int64} {sv : Value} {S : SX} {T : SM} (hR : Rel S T) {H : Heap} {locs : List Loc} {ls : Array Slot} (hP : va_P (gD G) vwCl (wM G bb T ++ wH G a o n sv S) H) (hD : va_D (fun q : Nat => s.heap.size ≤ q) (wM G bb T ++ wH G a o n sv S)) (hS : va_S (fun q : Nat => s.heap.size ≤ q) s.heap H locs) (hl : lv_has ls 7 [(0, .ref b9), (1, .ref (a 0)), (2, .ref (bb 0)), (3, .ref o), (4, .int (nI i))]) (kk : ∀ (n : Int64) (sv : Value) (S : SX) (T : SM) (H : Heap) (locs : List Loc) (ls : Array Slot), Rel S T → va_P (gD G) vwCl (wM G bb T ++ wH G a o n sv S) H → va_D (fun q : Nat => s.heap.size ≤ q) (wM G bb T ++ wH G a o n sv S) → va_S (fun q : Nat => s.heap.size ≤ q) s.heap H locs → lv_has ls 7 [(0, .ref b9), (1, .ref (a 0)), (2, .ref (bb 0)), (3, .ref o), (4, .int (nI i))] → W p l e room_1 s m #[Value.ref b9] below meth c H locs (cells + 200) (slots + 5000) Q (F0 m 3946 ls [])) : W p l e room_1 s m #[Value.ref b9] below meth c H locs (cells) (slots) Q (F0 m 1241 ls []) := by
  obtain ⟨C, hE, hN, hX, hbl, hl9, hL9, hA, hAB, hbA⟩ := Z
  have hx := C.1
  have hb := C.2.1
  have hml := C.2.2.1
  have hown := C.2.2.2.1
  have hw := C.2.2.2.2
  obtain ⟨hf0, hf1, hf2⟩ := lw_hf hf
  have hf3 := hf2
  obtain ⟨p0, hp0⟩ : ∃ y : Int32, xs (nI (i + 1)).toNatClampNeg = y := ⟨_, rfl⟩
  obtain ⟨p1, hp1⟩ : ∃ y : Int32, xs (nI (i + 2)).toNatClampNeg = y := ⟨_, rfl⟩
  refine lv_aload_n hx hb dL_law_1241 rfl (lv_at hl 1 rfl) ?_
  refine lv_aload_n hx hb dL_law_1242 rfl (lv_at hl 0 rfl) ?_
  refine lv_iload hx hb dL_law_1243 (lv_at hl 4 rfl) ?_
  refine lv_iconst (v := (1 : Int32)) hx hb dL_law_1245 qi_1 ?_
  refine lv_iadd hx hb dL_law_1246 ?_
  refine k_foldi (y := (nI (i + 1))) (nI_add i 1) ?_
  refine va_sld hx hb hX hbl hbA hS (lw_in hi hL9 rfl) dL_law_1247 ?_
  refine k_foldi (y := p0) hp0 ?_
  refine lv_aload_n hx hb dL_law_1248 rfl (lv_at hl 0 rfl) ?_
  refine lv_iload hx hb dL_law_1249 (lv_at hl 4 rfl) ?_
  refine lv_iconst (v := (2 : Int32)) hx hb dL_law_1251 qi_2 ?_
  refine lv_iadd hx hb dL_law_1252 ?_
  refine k_foldi (y := (nI (i + 2))) (nI_add i 2) ?_
  refine va_sld hx hb hX hbl hbA hS (lw_in hi hL9 rfl) dL_law_1253 ?_
  refine k_foldi (y := p1) hp1 ?_
  refine lv_aload_n hx hb dL_law_1254 rfl (lv_at hl 3 rfl) ?_
  refine lwHelp (n := 4) (wr := (wM G bb T)) (wd := (wH G a o n sv S)) (as := [.ref (a 0), .int p0, .int p1, .ref o]) (rest := []) C (k_withNano l hl9 G a o n sv S p0 p1) bw522 bw56 (by decide +kernel) rfl bw520 bw521 hN (hE.S hS hAB) hP hD hS hA hAB hl.1 dL_law_1255 ⟨(Nat.le_of_ble_eq_true rfl), (Nat.le_of_ble_eq_true rfl)⟩ rfl (Nat.le_of_ble_eq_true rfl) hf1 (fun r9 wd9 H locs hp9 hP hD hS => ?_)
  obtain ⟨c9, n9, sv9, S9, rfl, rfl, h9⟩ := hp9
  refine W.eq (g2 := F0 m 1258 ls [.int c9]) rfl ?_
  refine lv_istore (lv' := [(5, .int c9), (0, .ref b9), (1, .ref (a 0)), (2, .ref (bb 0)), (3, .ref o), (4, .int (nI i))]) hx hb dL_law_1258 hl (Nat.le_of_ble_eq_true rfl) rfl (fun ls hl => ?_)
  refine lv_aload_n hx hb dL_law_1260 rfl (lv_at hl 3 rfl) ?_
  refine lv_aload_n hx hb dL_law_1261 rfl (lv_at hl 1 rfl) ?_
  refine lv_iload hx hb dL_law_1262 (lv_at hl 5 rfl) ?_
  refine lv_iconst (v := (1 : Int32)) hx hb dL_law_1264 qi_1 ?_
  refine lv_iadd hx hb dL_law_1265 ?_
  refine k_foldi (y := (nI (i + 1))) (nI_add i 1) ?_
  refine va_sld hx hb hX hbl hbA hS (lw_in hi hL9 rfl) dL_law_1266 ?_
  refine k_foldi (y := p0) hp0 ?_
  refine lv_aload_n hx hb dL_law_1267 rfl (lv_at hl 1 rfl) ?_
  refine lv_iload hx hb dL_law_1268 (lv_at hl 5 rfl) ?_
  refine lv_iconst (v := (2 : Int32)) hx hb dL_law_1270 qi_2 ?_
  refine lv_iadd hx hb dL_law_1271 ?_
  refine k_foldi (y := (nI (i + 2))) (nI_add i 2) ?_
  refine va_sld hx hb hX hbl hbA hS (lw_in hi hL9 rfl) dL_law_1272 ?_
  refine k_foldi (y := p1) hp1 ?_
  refine lwWR (MC := 170) (MS := 4200) (st1 := [.int ((gX2_withNano T p0 p1).1)]) (wr := (wH G a o n9 sv9 S9)) (wd := (wM G bb T)) (as := [.int p0, .int p1]) (rest := []) (cl := RX2) (Nat.le_of_ble_eq_true rfl) (Nat.le_of_ble_eq_true rfl) C (c_X2_withNano l G bb T p0 p1 (Rel.mo hR)) F_X2_withNano rfl bw1346 bw1347 bw1348 (hE.S hS hAB) hP hD hS hA hAB (rv4 hE.K (P_tl (wr := (wH G a o n9 sv9 S9)) hP) (q0 := 0) rfl) hl.1 dL_law_1273 ⟨(Nat.le_of_ble_eq_true rfl), (Nat.le_of_ble_eq_true rfl)⟩ rfl (Nat.le_of_ble_eq_true rfl) hf2 rfl (fun H locs hP hD hS => ?_)
  have hc9 := cmp_withNano hR h9
  refine lv_istore (lv' := [(6, .int ((gX2_withNano T p0 p1).1)), (5, .int c9), (0, .ref b9), (1, .ref (a 0)), (2, .ref (bb 0)), (3, .ref o), (4, .int (nI i))]) hx hb dL_law_1276 hl (Nat.le_of_ble_eq_true rfl) rfl (fun ls hl => ?_)
  refine lv_aload_n hx hb dL_law_1278 rfl (lv_at hl 4 rfl) ?_
  refine rcVf (st1 := [.int (fX2_thrown ((gX2_withNano T p0 p1).2))]) (as := []) (rest := []) (cl := RX2) C (c_X2_thrown l G bb ((gX2_withNano T p0 p1).2)) F_X2_thrown rfl bw1200 bw1201 (hw _ bw1202) (hE.S hS hAB) (P_hd hP) (rv4 hE.K (P_hd hP) (q0 := 0) rfl) hl.1 dL_law_1279 ⟨Nat.le_of_ble_eq_true rfl, Nat.le_of_ble_eq_true rfl⟩ rfl (Nat.le_of_ble_eq_true rfl) hf3 rfl ?_
  refine k_foldi (y := c9) hc9.1 ?_
  refine lv_iload hx hb dL_law_1282 (lv_at hl 1 rfl) ?_
  refine lv_icmp_eq (tgt := 1289) hx hb dL_law_1284 (by decide) (fun _ => ?_) (fun c_x => absurd rfl c_x)
  refine lv_iload hx hb dL_law_1289 (lv_at hl 1 rfl) ?_
  refine lv_if_ne (tgt := 1307) hx hb dL_law_1291 (by decide) (fun c_1 => ?_) (fun c_1 => ?_)
  · refine lv_goto (tgt := 3946) hx hb dL_law_1307 (by decide) ?_
    refine W.widen (k := cells + 200) (n := slots + 5000) (by first | exact Nat.le_of_eq (Nat.add_assoc _ _ _) | omega) (by first | exact Nat.le_of_eq (Nat.add_assoc _ _ _) | omega) ?_
    exact kk n9 sv9 S9 ((gX2_withNano T p0 p1).2) _ _ ls (rel_withNano hR h9) hP hD hS (lv_sub hl [2, 3, 4, 5, 6] rfl)
  · refine lv_aload_n hx hb dL_law_1294 rfl (lv_at hl 5 rfl) ?_
    refine va_getN (D := gD G) (cl := vwCl) (tys := gT G) (ci := 3) (v := .long n9) (C := RX1) (T := TX1) (N := 2) hx hb hw inB_X1 hown hE.K hP 5 rfl rfl 0 (by decide) (va_Nw.use rfl hN.2.1) (fun _ h9 => h9) rfl dL_law_1295 ?_
    refine lv_iload hx hb dL_law_1298 (lv_at hl 0 rfl) ?_
    refine lv_i2l (v := (((gX2_withNano T p0 p1).1).toInt64)) hx hb dL_law_1300 (by first | rfl | decide) ?_
    refine W.lcmp hx hb dL_law_1301 ?_
    refine lv_if_eq (tgt := 1307) hx hb dL_law_1302 (by decide) (fun _ => ?_) (fun c_x => absurd (lgc_eq.mpr (by rw [hc9.2 c_1])) c_x)
    refine lv_goto (tgt := 3946) hx hb dL_law_1307 (by decide) ?_
    refine W.widen (k := cells + 200) (n := slots + 5000) (by first | exact Nat.le_of_eq (Nat.add_assoc _ _ _) | omega) (by first | exact Nat.le_of_eq (Nat.add_assoc _ _ _) | omega) ?_
    exact kk n9 sv9 S9 ((gX2_withNano T p0 p1).2) _ _ ls (rel_withNano hR h9) hP hD hS (lv_sub hl [2, 3, 4, 5, 6] rfl)

set_option maxRecDepth 100000 in
set_option maxHeartbeats 4000000 in
theorem case_truncate {p : Program} {l : Launch} {e : Env} {s : State} {m : MethodId} {below : List Frame} {meth : Method} {c : Code} {Q : State → Prop} {G : GT} {b9 L9 : Nat} {xs : Nat → Int32} {a bb : Nat → Nat} {o : Nat} (Z : LW p l s m meth c G b9 L9 xs) {i cells slots : Nat} (hi : i + 6 ≤ L9) (hf : cells + 200 ≤ room_1.cells ∧ slots + 5000 ≤ room_1.slots) {n : Int64} {sv : Value} {S : SX} {T : SM} (hR : Rel S T) {H : Heap} {locs : List Loc} {ls : Array Slot} (hP : va_P (gD G) vwCl (wM G bb T ++ wH G a o n sv S) H) (hD : va_D (fun q : Nat => s.heap.size ≤ q) (wM G bb T ++ wH G a o n sv S)) (hS : va_S (fun q : Nat => s.heap.size ≤ q) s.heap H locs) (hl : lv_has ls 7 [(0, .ref b9), (1, .ref (a 0)), (2, .ref (bb 0)), (3, .ref o), (4, .int (nI i))]) (kk : ∀ (n : Int64) (sv : Value) (S : SX) (T : SM) (H : Heap) (locs : List Loc) (ls : Array Slot), Rel S T → va_P (gD G) vwCl (wM G bb T ++ wH G a o n sv S) H → va_D (fun q : Nat => s.heap.size ≤ q) (wM G bb T ++ wH G a o n sv S) → va_S (fun q : Nat => s.heap.size ≤ q) s.heap H locs → lv_has ls 7 [(0, .ref b9), (1, .ref (a 0)), (2, .ref (bb 0)), (3, .ref o), (4, .int (nI i))] → W p l e room_1 s m #[Value.ref b9] below meth c H locs (cells + 200) (slots + 5000) Q (F0 m 3946 ls [])) : W p l e room_1 s m #[Value.ref b9] below meth c H locs (cells) (slots) Q (F0 m 1310 ls []) := by
  obtain ⟨C, hE, hN, hX, hbl, hl9, hL9, hA, hAB, hbA⟩ := Z
  have hx := C.1
  have hb := C.2.1
  have hml := C.2.2.1
  have hown := C.2.2.2.1
  have hw := C.2.2.2.2
  obtain ⟨hf0, hf1, hf2⟩ := lw_hf hf
  have hf3 := hf2
  obtain ⟨p0, hp0⟩ : ∃ y : Int32, xs (nI (i + 1)).toNatClampNeg = y := ⟨_, rfl⟩
  obtain ⟨p1, hp1⟩ : ∃ y : Int32, xs (nI (i + 2)).toNatClampNeg = y := ⟨_, rfl⟩
  refine lv_aload_n hx hb dL_law_1310 rfl (lv_at hl 1 rfl) ?_
  refine lv_aload_n hx hb dL_law_1311 rfl (lv_at hl 0 rfl) ?_
  refine lv_iload hx hb dL_law_1312 (lv_at hl 4 rfl) ?_
  refine lv_iconst (v := (1 : Int32)) hx hb dL_law_1314 qi_1 ?_
  refine lv_iadd hx hb dL_law_1315 ?_
  refine k_foldi (y := (nI (i + 1))) (nI_add i 1) ?_
  refine va_sld hx hb hX hbl hbA hS (lw_in hi hL9 rfl) dL_law_1316 ?_
  refine k_foldi (y := p0) hp0 ?_
  refine lv_aload_n hx hb dL_law_1317 rfl (lv_at hl 0 rfl) ?_
  refine lv_iload hx hb dL_law_1318 (lv_at hl 4 rfl) ?_
  refine lv_iconst (v := (2 : Int32)) hx hb dL_law_1320 qi_2 ?_
  refine lv_iadd hx hb dL_law_1321 ?_
  refine k_foldi (y := (nI (i + 2))) (nI_add i 2) ?_
  refine va_sld hx hb hX hbl hbA hS (lw_in hi hL9 rfl) dL_law_1322 ?_
  refine k_foldi (y := p1) hp1 ?_
  refine lv_aload_n hx hb dL_law_1323 rfl (lv_at hl 3 rfl) ?_
  refine lwHelp (n := 4) (wr := (wM G bb T)) (wd := (wH G a o n sv S)) (as := [.ref (a 0), .int p0, .int p1, .ref o]) (rest := []) C (k_truncate l hl9 G a o n sv S p0 p1) bw529 bw56 (by decide +kernel) rfl bw527 bw528 hN (hE.S hS hAB) hP hD hS hA hAB hl.1 dL_law_1324 ⟨(Nat.le_of_ble_eq_true rfl), (Nat.le_of_ble_eq_true rfl)⟩ rfl (Nat.le_of_ble_eq_true rfl) hf1 (fun r9 wd9 H locs hp9 hP hD hS => ?_)
  obtain ⟨c9, n9, sv9, S9, rfl, rfl, h9⟩ := hp9
  refine W.eq (g2 := F0 m 1327 ls [.int c9]) rfl ?_
  refine lv_istore (lv' := [(5, .int c9), (0, .ref b9), (1, .ref (a 0)), (2, .ref (bb 0)), (3, .ref o), (4, .int (nI i))]) hx hb dL_law_1327 hl (Nat.le_of_ble_eq_true rfl) rfl (fun ls hl => ?_)
  refine lv_aload_n hx hb dL_law_1329 rfl (lv_at hl 3 rfl) ?_
  refine lv_aload_n hx hb dL_law_1330 rfl (lv_at hl 1 rfl) ?_
  refine lv_iload hx hb dL_law_1331 (lv_at hl 5 rfl) ?_
  refine lv_iconst (v := (1 : Int32)) hx hb dL_law_1333 qi_1 ?_
  refine lv_iadd hx hb dL_law_1334 ?_
  refine k_foldi (y := (nI (i + 1))) (nI_add i 1) ?_
  refine va_sld hx hb hX hbl hbA hS (lw_in hi hL9 rfl) dL_law_1335 ?_
  refine k_foldi (y := p0) hp0 ?_
  refine lv_aload_n hx hb dL_law_1336 rfl (lv_at hl 1 rfl) ?_
  refine lv_iload hx hb dL_law_1337 (lv_at hl 5 rfl) ?_
  refine lv_iconst (v := (2 : Int32)) hx hb dL_law_1339 qi_2 ?_
  refine lv_iadd hx hb dL_law_1340 ?_
  refine k_foldi (y := (nI (i + 2))) (nI_add i 2) ?_
  refine va_sld hx hb hX hbl hbA hS (lw_in hi hL9 rfl) dL_law_1341 ?_
  refine k_foldi (y := p1) hp1 ?_
  refine lwWR (MC := 170) (MS := 4200) (st1 := [.int ((gX2_truncate T p0 p1).1)]) (wr := (wH G a o n9 sv9 S9)) (wd := (wM G bb T)) (as := [.int p0, .int p1]) (rest := []) (cl := RX2) (Nat.le_of_ble_eq_true rfl) (Nat.le_of_ble_eq_true rfl) C (c_X2_truncate l G bb T p0 p1 (Rel.mo hR)) F_X2_truncate rfl bw1350 bw1351 bw1352 (hE.S hS hAB) hP hD hS hA hAB (rv4 hE.K (P_tl (wr := (wH G a o n9 sv9 S9)) hP) (q0 := 0) rfl) hl.1 dL_law_1342 ⟨(Nat.le_of_ble_eq_true rfl), (Nat.le_of_ble_eq_true rfl)⟩ rfl (Nat.le_of_ble_eq_true rfl) hf2 rfl (fun H locs hP hD hS => ?_)
  have hc9 := cmp_truncate hR h9
  refine lv_istore (lv' := [(6, .int ((gX2_truncate T p0 p1).1)), (5, .int c9), (0, .ref b9), (1, .ref (a 0)), (2, .ref (bb 0)), (3, .ref o), (4, .int (nI i))]) hx hb dL_law_1345 hl (Nat.le_of_ble_eq_true rfl) rfl (fun ls hl => ?_)
  refine lv_aload_n hx hb dL_law_1347 rfl (lv_at hl 4 rfl) ?_
  refine rcVf (st1 := [.int (fX2_thrown ((gX2_truncate T p0 p1).2))]) (as := []) (rest := []) (cl := RX2) C (c_X2_thrown l G bb ((gX2_truncate T p0 p1).2)) F_X2_thrown rfl bw1200 bw1201 (hw _ bw1202) (hE.S hS hAB) (P_hd hP) (rv4 hE.K (P_hd hP) (q0 := 0) rfl) hl.1 dL_law_1348 ⟨Nat.le_of_ble_eq_true rfl, Nat.le_of_ble_eq_true rfl⟩ rfl (Nat.le_of_ble_eq_true rfl) hf3 rfl ?_
  refine k_foldi (y := c9) hc9.1 ?_
  refine lv_iload hx hb dL_law_1351 (lv_at hl 1 rfl) ?_
  refine lv_icmp_eq (tgt := 1358) hx hb dL_law_1353 (by decide) (fun _ => ?_) (fun c_x => absurd rfl c_x)
  refine lv_iload hx hb dL_law_1358 (lv_at hl 1 rfl) ?_
  refine lv_if_ne (tgt := 1376) hx hb dL_law_1360 (by decide) (fun c_1 => ?_) (fun c_1 => ?_)
  · refine lv_goto (tgt := 3946) hx hb dL_law_1376 (by decide) ?_
    refine W.widen (k := cells + 200) (n := slots + 5000) (by first | exact Nat.le_of_eq (Nat.add_assoc _ _ _) | omega) (by first | exact Nat.le_of_eq (Nat.add_assoc _ _ _) | omega) ?_
    exact kk n9 sv9 S9 ((gX2_truncate T p0 p1).2) _ _ ls (rel_truncate hR h9) hP hD hS (lv_sub hl [2, 3, 4, 5, 6] rfl)
  · refine lv_aload_n hx hb dL_law_1363 rfl (lv_at hl 5 rfl) ?_
    refine va_getN (D := gD G) (cl := vwCl) (tys := gT G) (ci := 3) (v := .long n9) (C := RX1) (T := TX1) (N := 2) hx hb hw inB_X1 hown hE.K hP 5 rfl rfl 0 (by decide) (va_Nw.use rfl hN.2.1) (fun _ h9 => h9) rfl dL_law_1364 ?_
    refine lv_iload hx hb dL_law_1367 (lv_at hl 0 rfl) ?_
    refine lv_i2l (v := (((gX2_truncate T p0 p1).1).toInt64)) hx hb dL_law_1369 (by first | rfl | decide) ?_
    refine W.lcmp hx hb dL_law_1370 ?_
    refine lv_if_eq (tgt := 1376) hx hb dL_law_1371 (by decide) (fun _ => ?_) (fun c_x => absurd (lgc_eq.mpr (by rw [hc9.2 c_1])) c_x)
    refine lv_goto (tgt := 3946) hx hb dL_law_1376 (by decide) ?_
    refine W.widen (k := cells + 200) (n := slots + 5000) (by first | exact Nat.le_of_eq (Nat.add_assoc _ _ _) | omega) (by first | exact Nat.le_of_eq (Nat.add_assoc _ _ _) | omega) ?_
    exact kk n9 sv9 S9 ((gX2_truncate T p0 p1).2) _ _ ls (rel_truncate hR h9) hP hD hS (lv_sub hl [2, 3, 4, 5, 6] rfl)

set_option maxRecDepth 100000 in
set_option maxHeartbeats 4000000 in
theorem case_plusYears {p : Program} {l : Launch} {e : Env} {s : State} {m : MethodId} {below : List Frame} {meth : Method} {c : Code} {Q : State → Prop} {G : GT} {b9 L9 : Nat} {xs : Nat → Int32} {a bb : Nat → Nat} {o : Nat} (Z : LW p l s m meth c G b9 L9 xs) {i cells slots : Nat} (hi : i + 6 ≤ L9) (hf : cells + 200 ≤ room_1.cells ∧ slots + 5000 ≤ room_1.slots) {n : Int64} {sv : Value} {S : SX} {T : SM} (hR : Rel S T) {H : Heap} {locs : List Loc} {ls : Array Slot} (hP : va_P (gD G) vwCl (wM G bb T ++ wH G a o n sv S) H) (hD : va_D (fun q : Nat => s.heap.size ≤ q) (wM G bb T ++ wH G a o n sv S)) (hS : va_S (fun q : Nat => s.heap.size ≤ q) s.heap H locs) (hl : lv_has ls 7 [(0, .ref b9), (1, .ref (a 0)), (2, .ref (bb 0)), (3, .ref o), (4, .int (nI i))]) (kk : ∀ (n : Int64) (sv : Value) (S : SX) (T : SM) (H : Heap) (locs : List Loc) (ls : Array Slot), Rel S T → va_P (gD G) vwCl (wM G bb T ++ wH G a o n sv S) H → va_D (fun q : Nat => s.heap.size ≤ q) (wM G bb T ++ wH G a o n sv S) → va_S (fun q : Nat => s.heap.size ≤ q) s.heap H locs → lv_has ls 7 [(0, .ref b9), (1, .ref (a 0)), (2, .ref (bb 0)), (3, .ref o), (4, .int (nI i))] → W p l e room_1 s m #[Value.ref b9] below meth c H locs (cells + 200) (slots + 5000) Q (F0 m 3946 ls [])) : W p l e room_1 s m #[Value.ref b9] below meth c H locs (cells) (slots) Q (F0 m 1379 ls []) := by
  obtain ⟨C, hE, hN, hX, hbl, hl9, hL9, hA, hAB, hbA⟩ := Z
  have hx := C.1
  have hb := C.2.1
  have hml := C.2.2.1
  have hown := C.2.2.2.1
  have hw := C.2.2.2.2
  obtain ⟨hf0, hf1, hf2⟩ := lw_hf hf
  have hf3 := hf2
  obtain ⟨p0, hp0⟩ : ∃ y : Int32, xs (nI (i + 1)).toNatClampNeg = y := ⟨_, rfl⟩
  obtain ⟨p1, hp1⟩ : ∃ y : Int32, xs (nI (i + 2)).toNatClampNeg = y := ⟨_, rfl⟩
  refine lv_aload_n hx hb dL_law_1379 rfl (lv_at hl 1 rfl) ?_
  refine lv_aload_n hx hb dL_law_1380 rfl (lv_at hl 0 rfl) ?_
  refine lv_iload hx hb dL_law_1381 (lv_at hl 4 rfl) ?_
  refine lv_iconst (v := (1 : Int32)) hx hb dL_law_1383 qi_1 ?_
  refine lv_iadd hx hb dL_law_1384 ?_
  refine k_foldi (y := (nI (i + 1))) (nI_add i 1) ?_
  refine va_sld hx hb hX hbl hbA hS (lw_in hi hL9 rfl) dL_law_1385 ?_
  refine k_foldi (y := p0) hp0 ?_
  refine lv_aload_n hx hb dL_law_1386 rfl (lv_at hl 0 rfl) ?_
  refine lv_iload hx hb dL_law_1387 (lv_at hl 4 rfl) ?_
  refine lv_iconst (v := (2 : Int32)) hx hb dL_law_1389 qi_2 ?_
  refine lv_iadd hx hb dL_law_1390 ?_
  refine k_foldi (y := (nI (i + 2))) (nI_add i 2) ?_
  refine va_sld hx hb hX hbl hbA hS (lw_in hi hL9 rfl) dL_law_1391 ?_
  refine k_foldi (y := p1) hp1 ?_
  refine lv_aload_n hx hb dL_law_1392 rfl (lv_at hl 3 rfl) ?_
  refine lwHelp (n := 4) (wr := (wM G bb T)) (wd := (wH G a o n sv S)) (as := [.ref (a 0), .int p0, .int p1, .ref o]) (rest := []) C (k_plusYears l hl9 G a o n sv S p0 p1) bw536 bw56 (by decide +kernel) rfl bw534 bw535 hN (hE.S hS hAB) hP hD hS hA hAB hl.1 dL_law_1393 ⟨(Nat.le_of_ble_eq_true rfl), (Nat.le_of_ble_eq_true rfl)⟩ rfl (Nat.le_of_ble_eq_true rfl) hf1 (fun r9 wd9 H locs hp9 hP hD hS => ?_)
  obtain ⟨c9, n9, sv9, S9, rfl, rfl, h9⟩ := hp9
  refine W.eq (g2 := F0 m 1396 ls [.int c9]) rfl ?_
  refine lv_istore (lv' := [(5, .int c9), (0, .ref b9), (1, .ref (a 0)), (2, .ref (bb 0)), (3, .ref o), (4, .int (nI i))]) hx hb dL_law_1396 hl (Nat.le_of_ble_eq_true rfl) rfl (fun ls hl => ?_)
  refine lv_aload_n hx hb dL_law_1398 rfl (lv_at hl 3 rfl) ?_
  refine lv_aload_n hx hb dL_law_1399 rfl (lv_at hl 1 rfl) ?_
  refine lv_iload hx hb dL_law_1400 (lv_at hl 5 rfl) ?_
  refine lv_iconst (v := (1 : Int32)) hx hb dL_law_1402 qi_1 ?_
  refine lv_iadd hx hb dL_law_1403 ?_
  refine k_foldi (y := (nI (i + 1))) (nI_add i 1) ?_
  refine va_sld hx hb hX hbl hbA hS (lw_in hi hL9 rfl) dL_law_1404 ?_
  refine k_foldi (y := p0) hp0 ?_
  refine lv_aload_n hx hb dL_law_1405 rfl (lv_at hl 1 rfl) ?_
  refine lv_iload hx hb dL_law_1406 (lv_at hl 5 rfl) ?_
  refine lv_iconst (v := (2 : Int32)) hx hb dL_law_1408 qi_2 ?_
  refine lv_iadd hx hb dL_law_1409 ?_
  refine k_foldi (y := (nI (i + 2))) (nI_add i 2) ?_
  refine va_sld hx hb hX hbl hbA hS (lw_in hi hL9 rfl) dL_law_1410 ?_
  refine k_foldi (y := p1) hp1 ?_
  refine lwWR (MC := 170) (MS := 4200) (st1 := [.int ((gX2_plusYears T p0 p1).1)]) (wr := (wH G a o n9 sv9 S9)) (wd := (wM G bb T)) (as := [.int p0, .int p1]) (rest := []) (cl := RX2) (Nat.le_of_ble_eq_true rfl) (Nat.le_of_ble_eq_true rfl) C (c_X2_plusYears l G bb T p0 p1 (Rel.mo hR)) F_X2_plusYears rfl bw1362 bw1363 bw1364 (hE.S hS hAB) hP hD hS hA hAB (rv4 hE.K (P_tl (wr := (wH G a o n9 sv9 S9)) hP) (q0 := 0) rfl) hl.1 dL_law_1411 ⟨(Nat.le_of_ble_eq_true rfl), (Nat.le_of_ble_eq_true rfl)⟩ rfl (Nat.le_of_ble_eq_true rfl) hf2 rfl (fun H locs hP hD hS => ?_)
  have hc9 := cmp_plusYears hR h9
  refine lv_istore (lv' := [(6, .int ((gX2_plusYears T p0 p1).1)), (5, .int c9), (0, .ref b9), (1, .ref (a 0)), (2, .ref (bb 0)), (3, .ref o), (4, .int (nI i))]) hx hb dL_law_1414 hl (Nat.le_of_ble_eq_true rfl) rfl (fun ls hl => ?_)
  refine lv_aload_n hx hb dL_law_1416 rfl (lv_at hl 4 rfl) ?_
  refine rcVf (st1 := [.int (fX2_thrown ((gX2_plusYears T p0 p1).2))]) (as := []) (rest := []) (cl := RX2) C (c_X2_thrown l G bb ((gX2_plusYears T p0 p1).2)) F_X2_thrown rfl bw1200 bw1201 (hw _ bw1202) (hE.S hS hAB) (P_hd hP) (rv4 hE.K (P_hd hP) (q0 := 0) rfl) hl.1 dL_law_1417 ⟨Nat.le_of_ble_eq_true rfl, Nat.le_of_ble_eq_true rfl⟩ rfl (Nat.le_of_ble_eq_true rfl) hf3 rfl ?_
  refine k_foldi (y := c9) hc9.1 ?_
  refine lv_iload hx hb dL_law_1420 (lv_at hl 1 rfl) ?_
  refine lv_icmp_eq (tgt := 1427) hx hb dL_law_1422 (by decide) (fun _ => ?_) (fun c_x => absurd rfl c_x)
  refine lv_iload hx hb dL_law_1427 (lv_at hl 1 rfl) ?_
  refine lv_if_ne (tgt := 1445) hx hb dL_law_1429 (by decide) (fun c_1 => ?_) (fun c_1 => ?_)
  · refine lv_goto (tgt := 3946) hx hb dL_law_1445 (by decide) ?_
    refine W.widen (k := cells + 200) (n := slots + 5000) (by first | exact Nat.le_of_eq (Nat.add_assoc _ _ _) | omega) (by first | exact Nat.le_of_eq (Nat.add_assoc _ _ _) | omega) ?_
    exact kk n9 sv9 S9 ((gX2_plusYears T p0 p1).2) _ _ ls (rel_plusYears hR h9) hP hD hS (lv_sub hl [2, 3, 4, 5, 6] rfl)
  · refine lv_aload_n hx hb dL_law_1432 rfl (lv_at hl 5 rfl) ?_
    refine va_getN (D := gD G) (cl := vwCl) (tys := gT G) (ci := 3) (v := .long n9) (C := RX1) (T := TX1) (N := 2) hx hb hw inB_X1 hown hE.K hP 5 rfl rfl 0 (by decide) (va_Nw.use rfl hN.2.1) (fun _ h9 => h9) rfl dL_law_1433 ?_
    refine lv_iload hx hb dL_law_1436 (lv_at hl 0 rfl) ?_
    refine lv_i2l (v := (((gX2_plusYears T p0 p1).1).toInt64)) hx hb dL_law_1438 (by first | rfl | decide) ?_
    refine W.lcmp hx hb dL_law_1439 ?_
    refine lv_if_eq (tgt := 1445) hx hb dL_law_1440 (by decide) (fun _ => ?_) (fun c_x => absurd (lgc_eq.mpr (by rw [hc9.2 c_1])) c_x)
    refine lv_goto (tgt := 3946) hx hb dL_law_1445 (by decide) ?_
    refine W.widen (k := cells + 200) (n := slots + 5000) (by first | exact Nat.le_of_eq (Nat.add_assoc _ _ _) | omega) (by first | exact Nat.le_of_eq (Nat.add_assoc _ _ _) | omega) ?_
    exact kk n9 sv9 S9 ((gX2_plusYears T p0 p1).2) _ _ ls (rel_plusYears hR h9) hP hD hS (lv_sub hl [2, 3, 4, 5, 6] rfl)

set_option maxRecDepth 100000 in
set_option maxHeartbeats 4000000 in
theorem case_plusMonths {p : Program} {l : Launch} {e : Env} {s : State} {m : MethodId} {below : List Frame} {meth : Method} {c : Code} {Q : State → Prop} {G : GT} {b9 L9 : Nat} {xs : Nat → Int32} {a bb : Nat → Nat} {o : Nat} (Z : LW p l s m meth c G b9 L9 xs) {i cells slots : Nat} (hi : i + 6 ≤ L9) (hf : cells + 200 ≤ room_1.cells ∧ slots + 5000 ≤ room_1.slots) {n : Int64} {sv : Value} {S : SX} {T : SM} (hR : Rel S T) {H : Heap} {locs : List Loc} {ls : Array Slot} (hP : va_P (gD G) vwCl (wM G bb T ++ wH G a o n sv S) H) (hD : va_D (fun q : Nat => s.heap.size ≤ q) (wM G bb T ++ wH G a o n sv S)) (hS : va_S (fun q : Nat => s.heap.size ≤ q) s.heap H locs) (hl : lv_has ls 7 [(0, .ref b9), (1, .ref (a 0)), (2, .ref (bb 0)), (3, .ref o), (4, .int (nI i))]) (kk : ∀ (n : Int64) (sv : Value) (S : SX) (T : SM) (H : Heap) (locs : List Loc) (ls : Array Slot), Rel S T → va_P (gD G) vwCl (wM G bb T ++ wH G a o n sv S) H → va_D (fun q : Nat => s.heap.size ≤ q) (wM G bb T ++ wH G a o n sv S) → va_S (fun q : Nat => s.heap.size ≤ q) s.heap H locs → lv_has ls 7 [(0, .ref b9), (1, .ref (a 0)), (2, .ref (bb 0)), (3, .ref o), (4, .int (nI i))] → W p l e room_1 s m #[Value.ref b9] below meth c H locs (cells + 200) (slots + 5000) Q (F0 m 3946 ls [])) : W p l e room_1 s m #[Value.ref b9] below meth c H locs (cells) (slots) Q (F0 m 1448 ls []) := by
  obtain ⟨C, hE, hN, hX, hbl, hl9, hL9, hA, hAB, hbA⟩ := Z
  have hx := C.1
  have hb := C.2.1
  have hml := C.2.2.1
  have hown := C.2.2.2.1
  have hw := C.2.2.2.2
  obtain ⟨hf0, hf1, hf2⟩ := lw_hf hf
  have hf3 := hf2
  obtain ⟨p0, hp0⟩ : ∃ y : Int32, xs (nI (i + 1)).toNatClampNeg = y := ⟨_, rfl⟩
  obtain ⟨p1, hp1⟩ : ∃ y : Int32, xs (nI (i + 2)).toNatClampNeg = y := ⟨_, rfl⟩
  refine lv_aload_n hx hb dL_law_1448 rfl (lv_at hl 1 rfl) ?_
  refine lv_aload_n hx hb dL_law_1449 rfl (lv_at hl 0 rfl) ?_
  refine lv_iload hx hb dL_law_1450 (lv_at hl 4 rfl) ?_
  refine lv_iconst (v := (1 : Int32)) hx hb dL_law_1452 qi_1 ?_
  refine lv_iadd hx hb dL_law_1453 ?_
  refine k_foldi (y := (nI (i + 1))) (nI_add i 1) ?_
  refine va_sld hx hb hX hbl hbA hS (lw_in hi hL9 rfl) dL_law_1454 ?_
  refine k_foldi (y := p0) hp0 ?_
  refine lv_aload_n hx hb dL_law_1455 rfl (lv_at hl 0 rfl) ?_
  refine lv_iload hx hb dL_law_1456 (lv_at hl 4 rfl) ?_
  refine lv_iconst (v := (2 : Int32)) hx hb dL_law_1458 qi_2 ?_
  refine lv_iadd hx hb dL_law_1459 ?_
  refine k_foldi (y := (nI (i + 2))) (nI_add i 2) ?_
  refine va_sld hx hb hX hbl hbA hS (lw_in hi hL9 rfl) dL_law_1460 ?_
  refine k_foldi (y := p1) hp1 ?_
  refine lv_aload_n hx hb dL_law_1461 rfl (lv_at hl 3 rfl) ?_
  refine lwHelp (n := 4) (wr := (wM G bb T)) (wd := (wH G a o n sv S)) (as := [.ref (a 0), .int p0, .int p1, .ref o]) (rest := []) C (k_plusMonths l hl9 G a o n sv S p0 p1) bw556 bw56 (by decide +kernel) rfl bw554 bw555 hN (hE.S hS hAB) hP hD hS hA hAB hl.1 dL_law_1462 ⟨(Nat.le_of_ble_eq_true rfl), (Nat.le_of_ble_eq_true rfl)⟩ rfl (Nat.le_of_ble_eq_true rfl) hf1 (fun r9 wd9 H locs hp9 hP hD hS => ?_)
  obtain ⟨c9, n9, sv9, S9, rfl, rfl, h9⟩ := hp9
  refine W.eq (g2 := F0 m 1465 ls [.int c9]) rfl ?_
  refine lv_istore (lv' := [(5, .int c9), (0, .ref b9), (1, .ref (a 0)), (2, .ref (bb 0)), (3, .ref o), (4, .int (nI i))]) hx hb dL_law_1465 hl (Nat.le_of_ble_eq_true rfl) rfl (fun ls hl => ?_)
  refine lv_aload_n hx hb dL_law_1467 rfl (lv_at hl 3 rfl) ?_
  refine lv_aload_n hx hb dL_law_1468 rfl (lv_at hl 1 rfl) ?_
  refine lv_iload hx hb dL_law_1469 (lv_at hl 5 rfl) ?_
  refine lv_iconst (v := (1 : Int32)) hx hb dL_law_1471 qi_1 ?_
  refine lv_iadd hx hb dL_law_1472 ?_
  refine k_foldi (y := (nI (i + 1))) (nI_add i 1) ?_
  refine va_sld hx hb hX hbl hbA hS (lw_in hi hL9 rfl) dL_law_1473 ?_
  refine k_foldi (y := p0) hp0 ?_
  refine lv_aload_n hx hb dL_law_1474 rfl (lv_at hl 1 rfl) ?_
  refine lv_iload hx hb dL_law_1475 (lv_at hl 5 rfl) ?_
  refine lv_iconst (v := (2 : Int32)) hx hb dL_law_1477 qi_2 ?_
  refine lv_iadd hx hb dL_law_1478 ?_
  refine k_foldi (y := (nI (i + 2))) (nI_add i 2) ?_
  refine va_sld hx hb hX hbl hbA hS (lw_in hi hL9 rfl) dL_law_1479 ?_
  refine k_foldi (y := p1) hp1 ?_
  refine lwWR (MC := 170) (MS := 4200) (st1 := [.int ((gX2_plusMonths T p0 p1).1)]) (wr := (wH G a o n9 sv9 S9)) (wd := (wM G bb T)) (as := [.int p0, .int p1]) (rest := []) (cl := RX2) (Nat.le_of_ble_eq_true rfl) (Nat.le_of_ble_eq_true rfl) C (c_X2_plusMonths l G bb T p0 p1 (Rel.mo hR)) F_X2_plusMonths rfl bw1373 bw1374 bw1375 (hE.S hS hAB) hP hD hS hA hAB (rv4 hE.K (P_tl (wr := (wH G a o n9 sv9 S9)) hP) (q0 := 0) rfl) hl.1 dL_law_1480 ⟨(Nat.le_of_ble_eq_true rfl), (Nat.le_of_ble_eq_true rfl)⟩ rfl (Nat.le_of_ble_eq_true rfl) hf2 rfl (fun H locs hP hD hS => ?_)
  have hc9 := cmp_plusMonths hR h9
  refine lv_istore (lv' := [(6, .int ((gX2_plusMonths T p0 p1).1)), (5, .int c9), (0, .ref b9), (1, .ref (a 0)), (2, .ref (bb 0)), (3, .ref o), (4, .int (nI i))]) hx hb dL_law_1483 hl (Nat.le_of_ble_eq_true rfl) rfl (fun ls hl => ?_)
  refine lv_aload_n hx hb dL_law_1485 rfl (lv_at hl 4 rfl) ?_
  refine rcVf (st1 := [.int (fX2_thrown ((gX2_plusMonths T p0 p1).2))]) (as := []) (rest := []) (cl := RX2) C (c_X2_thrown l G bb ((gX2_plusMonths T p0 p1).2)) F_X2_thrown rfl bw1200 bw1201 (hw _ bw1202) (hE.S hS hAB) (P_hd hP) (rv4 hE.K (P_hd hP) (q0 := 0) rfl) hl.1 dL_law_1486 ⟨Nat.le_of_ble_eq_true rfl, Nat.le_of_ble_eq_true rfl⟩ rfl (Nat.le_of_ble_eq_true rfl) hf3 rfl ?_
  refine k_foldi (y := c9) hc9.1 ?_
  refine lv_iload hx hb dL_law_1489 (lv_at hl 1 rfl) ?_
  refine lv_icmp_eq (tgt := 1496) hx hb dL_law_1491 (by decide) (fun _ => ?_) (fun c_x => absurd rfl c_x)
  refine lv_iload hx hb dL_law_1496 (lv_at hl 1 rfl) ?_
  refine lv_if_ne (tgt := 1514) hx hb dL_law_1498 (by decide) (fun c_1 => ?_) (fun c_1 => ?_)
  · refine lv_goto (tgt := 3946) hx hb dL_law_1514 (by decide) ?_
    refine W.widen (k := cells + 200) (n := slots + 5000) (by first | exact Nat.le_of_eq (Nat.add_assoc _ _ _) | omega) (by first | exact Nat.le_of_eq (Nat.add_assoc _ _ _) | omega) ?_
    exact kk n9 sv9 S9 ((gX2_plusMonths T p0 p1).2) _ _ ls (rel_plusMonths hR h9) hP hD hS (lv_sub hl [2, 3, 4, 5, 6] rfl)
  · refine lv_aload_n hx hb dL_law_1501 rfl (lv_at hl 5 rfl) ?_
    refine va_getN (D := gD G) (cl := vwCl) (tys := gT G) (ci := 3) (v := .long n9) (C := RX1) (T := TX1) (N := 2) hx hb hw inB_X1 hown hE.K hP 5 rfl rfl 0 (by decide) (va_Nw.use rfl hN.2.1) (fun _ h9 => h9) rfl dL_law_1502 ?_
    refine lv_iload hx hb dL_law_1505 (lv_at hl 0 rfl) ?_
    refine lv_i2l (v := (((gX2_plusMonths T p0 p1).1).toInt64)) hx hb dL_law_1507 (by first | rfl | decide) ?_
    refine W.lcmp hx hb dL_law_1508 ?_
    refine lv_if_eq (tgt := 1514) hx hb dL_law_1509 (by decide) (fun _ => ?_) (fun c_x => absurd (lgc_eq.mpr (by rw [hc9.2 c_1])) c_x)
    refine lv_goto (tgt := 3946) hx hb dL_law_1514 (by decide) ?_
    refine W.widen (k := cells + 200) (n := slots + 5000) (by first | exact Nat.le_of_eq (Nat.add_assoc _ _ _) | omega) (by first | exact Nat.le_of_eq (Nat.add_assoc _ _ _) | omega) ?_
    exact kk n9 sv9 S9 ((gX2_plusMonths T p0 p1).2) _ _ ls (rel_plusMonths hR h9) hP hD hS (lv_sub hl [2, 3, 4, 5, 6] rfl)

set_option maxRecDepth 100000 in
set_option maxHeartbeats 4000000 in
theorem case_plusWeeks {p : Program} {l : Launch} {e : Env} {s : State} {m : MethodId} {below : List Frame} {meth : Method} {c : Code} {Q : State → Prop} {G : GT} {b9 L9 : Nat} {xs : Nat → Int32} {a bb : Nat → Nat} {o : Nat} (Z : LW p l s m meth c G b9 L9 xs) {i cells slots : Nat} (hi : i + 6 ≤ L9) (hf : cells + 200 ≤ room_1.cells ∧ slots + 5000 ≤ room_1.slots) {n : Int64} {sv : Value} {S : SX} {T : SM} (hR : Rel S T) {H : Heap} {locs : List Loc} {ls : Array Slot} (hP : va_P (gD G) vwCl (wM G bb T ++ wH G a o n sv S) H) (hD : va_D (fun q : Nat => s.heap.size ≤ q) (wM G bb T ++ wH G a o n sv S)) (hS : va_S (fun q : Nat => s.heap.size ≤ q) s.heap H locs) (hl : lv_has ls 7 [(0, .ref b9), (1, .ref (a 0)), (2, .ref (bb 0)), (3, .ref o), (4, .int (nI i))]) (kk : ∀ (n : Int64) (sv : Value) (S : SX) (T : SM) (H : Heap) (locs : List Loc) (ls : Array Slot), Rel S T → va_P (gD G) vwCl (wM G bb T ++ wH G a o n sv S) H → va_D (fun q : Nat => s.heap.size ≤ q) (wM G bb T ++ wH G a o n sv S) → va_S (fun q : Nat => s.heap.size ≤ q) s.heap H locs → lv_has ls 7 [(0, .ref b9), (1, .ref (a 0)), (2, .ref (bb 0)), (3, .ref o), (4, .int (nI i))] → W p l e room_1 s m #[Value.ref b9] below meth c H locs (cells + 200) (slots + 5000) Q (F0 m 3946 ls [])) : W p l e room_1 s m #[Value.ref b9] below meth c H locs (cells) (slots) Q (F0 m 1517 ls []) := by
  obtain ⟨C, hE, hN, hX, hbl, hl9, hL9, hA, hAB, hbA⟩ := Z
  have hx := C.1
  have hb := C.2.1
  have hml := C.2.2.1
  have hown := C.2.2.2.1
  have hw := C.2.2.2.2
  obtain ⟨hf0, hf1, hf2⟩ := lw_hf hf
  have hf3 := hf2
  obtain ⟨p0, hp0⟩ : ∃ y : Int32, xs (nI (i + 1)).toNatClampNeg = y := ⟨_, rfl⟩
  obtain ⟨p1, hp1⟩ : ∃ y : Int32, xs (nI (i + 2)).toNatClampNeg = y := ⟨_, rfl⟩
  refine lv_aload_n hx hb dL_law_1517 rfl (lv_at hl 1 rfl) ?_
  refine lv_aload_n hx hb dL_law_1518 rfl (lv_at hl 0 rfl) ?_
  refine lv_iload hx hb dL_law_1519 (lv_at hl 4 rfl) ?_
  refine lv_iconst (v := (1 : Int32)) hx hb dL_law_1521 qi_1 ?_
  refine lv_iadd hx hb dL_law_1522 ?_
  refine k_foldi (y := (nI (i + 1))) (nI_add i 1) ?_
  refine va_sld hx hb hX hbl hbA hS (lw_in hi hL9 rfl) dL_law_1523 ?_
  refine k_foldi (y := p0) hp0 ?_
  refine lv_aload_n hx hb dL_law_1524 rfl (lv_at hl 0 rfl) ?_
  refine lv_iload hx hb dL_law_1525 (lv_at hl 4 rfl) ?_
  refine lv_iconst (v := (2 : Int32)) hx hb dL_law_1527 qi_2 ?_
  refine lv_iadd hx hb dL_law_1528 ?_
  refine k_foldi (y := (nI (i + 2))) (nI_add i 2) ?_
  refine va_sld hx hb hX hbl hbA hS (lw_in hi hL9 rfl) dL_law_1529 ?_
  refine k_foldi (y := p1) hp1 ?_
  refine lv_aload_n hx hb dL_law_1530 rfl (lv_at hl 3 rfl) ?_
  refine lwHelp (n := 4) (wr := (wM G bb T)) (wd := (wH G a o n sv S)) (as := [.ref (a 0), .int p0, .int p1, .ref o]) (rest := []) C (k_plusWeeks l hl9 G a o n sv S p0 p1) bw563 bw56 (by decide +kernel) rfl bw561 bw562 hN (hE.S hS hAB) hP hD hS hA hAB hl.1 dL_law_1531 ⟨(Nat.le_of_ble_eq_true rfl), (Nat.le_of_ble_eq_true rfl)⟩ rfl (Nat.le_of_ble_eq_true rfl) hf1 (fun r9 wd9 H locs hp9 hP hD hS => ?_)
  obtain ⟨c9, n9, sv9, S9, rfl, rfl, h9⟩ := hp9
  refine W.eq (g2 := F0 m 1534 ls [.int c9]) rfl ?_
  refine lv_istore (lv' := [(5, .int c9), (0, .ref b9), (1, .ref (a 0)), (2, .ref (bb 0)), (3, .ref o), (4, .int (nI i))]) hx hb dL_law_1534 hl (Nat.le_of_ble_eq_true rfl) rfl (fun ls hl => ?_)
  refine lv_aload_n hx hb dL_law_1536 rfl (lv_at hl 3 rfl) ?_
  refine lv_aload_n hx hb dL_law_1537 rfl (lv_at hl 1 rfl) ?_
  refine lv_iload hx hb dL_law_1538 (lv_at hl 5 rfl) ?_
  refine lv_iconst (v := (1 : Int32)) hx hb dL_law_1540 qi_1 ?_
  refine lv_iadd hx hb dL_law_1541 ?_
  refine k_foldi (y := (nI (i + 1))) (nI_add i 1) ?_
  refine va_sld hx hb hX hbl hbA hS (lw_in hi hL9 rfl) dL_law_1542 ?_
  refine k_foldi (y := p0) hp0 ?_
  refine lv_aload_n hx hb dL_law_1543 rfl (lv_at hl 1 rfl) ?_
  refine lv_iload hx hb dL_law_1544 (lv_at hl 5 rfl) ?_
  refine lv_iconst (v := (2 : Int32)) hx hb dL_law_1546 qi_2 ?_
  refine lv_iadd hx hb dL_law_1547 ?_
  refine k_foldi (y := (nI (i + 2))) (nI_add i 2) ?_
  refine va_sld hx hb hX hbl hbA hS (lw_in hi hL9 rfl) dL_law_1548 ?_
  refine k_foldi (y := p1) hp1 ?_
  refine lwWR (MC := 170) (MS := 4200) (st1 := [.int ((gX2_plusWeeks T p0 p1).1)]) (wr := (wH G a o n9 sv9 S9)) (wd := (wM G bb T)) (as := [.int p0, .int p1]) (rest := []) (cl := RX2) (Nat.le_of_ble_eq_true rfl) (Nat.le_of_ble_eq_true rfl) C (c_X2_plusWeeks l G bb T p0 p1 (Rel.mo hR)) F_X2_plusWeeks rfl bw1377 bw1378 bw1379 (hE.S hS hAB) hP hD hS hA hAB (rv4 hE.K (P_tl (wr := (wH G a o n9 sv9 S9)) hP) (q0 := 0) rfl) hl.1 dL_law_1549 ⟨(Nat.le_of_ble_eq_true rfl), (Nat.le_of_ble_eq_true rfl)⟩ rfl (Nat.le_of_ble_eq_true rfl) hf2 rfl (fun H locs hP hD hS => ?_)
  have hc9 := cmp_plusWeeks hR h9
  refine lv_istore (lv' := [(6, .int ((gX2_plusWeeks T p0 p1).1)), (5, .int c9), (0, .ref b9), (1, .ref (a 0)), (2, .ref (bb 0)), (3, .ref o), (4, .int (nI i))]) hx hb dL_law_1552 hl (Nat.le_of_ble_eq_true rfl) rfl (fun ls hl => ?_)
  refine lv_aload_n hx hb dL_law_1554 rfl (lv_at hl 4 rfl) ?_
  refine rcVf (st1 := [.int (fX2_thrown ((gX2_plusWeeks T p0 p1).2))]) (as := []) (rest := []) (cl := RX2) C (c_X2_thrown l G bb ((gX2_plusWeeks T p0 p1).2)) F_X2_thrown rfl bw1200 bw1201 (hw _ bw1202) (hE.S hS hAB) (P_hd hP) (rv4 hE.K (P_hd hP) (q0 := 0) rfl) hl.1 dL_law_1555 ⟨Nat.le_of_ble_eq_true rfl, Nat.le_of_ble_eq_true rfl⟩ rfl (Nat.le_of_ble_eq_true rfl) hf3 rfl ?_
  refine k_foldi (y := c9) hc9.1 ?_
  refine lv_iload hx hb dL_law_1558 (lv_at hl 1 rfl) ?_
  refine lv_icmp_eq (tgt := 1565) hx hb dL_law_1560 (by decide) (fun _ => ?_) (fun c_x => absurd rfl c_x)
  refine lv_iload hx hb dL_law_1565 (lv_at hl 1 rfl) ?_
  refine lv_if_ne (tgt := 1583) hx hb dL_law_1567 (by decide) (fun c_1 => ?_) (fun c_1 => ?_)
  · refine lv_goto (tgt := 3946) hx hb dL_law_1583 (by decide) ?_
    refine W.widen (k := cells + 200) (n := slots + 5000) (by first | exact Nat.le_of_eq (Nat.add_assoc _ _ _) | omega) (by first | exact Nat.le_of_eq (Nat.add_assoc _ _ _) | omega) ?_
    exact kk n9 sv9 S9 ((gX2_plusWeeks T p0 p1).2) _ _ ls (rel_plusWeeks hR h9) hP hD hS (lv_sub hl [2, 3, 4, 5, 6] rfl)
  · refine lv_aload_n hx hb dL_law_1570 rfl (lv_at hl 5 rfl) ?_
    refine va_getN (D := gD G) (cl := vwCl) (tys := gT G) (ci := 3) (v := .long n9) (C := RX1) (T := TX1) (N := 2) hx hb hw inB_X1 hown hE.K hP 5 rfl rfl 0 (by decide) (va_Nw.use rfl hN.2.1) (fun _ h9 => h9) rfl dL_law_1571 ?_
    refine lv_iload hx hb dL_law_1574 (lv_at hl 0 rfl) ?_
    refine lv_i2l (v := (((gX2_plusWeeks T p0 p1).1).toInt64)) hx hb dL_law_1576 (by first | rfl | decide) ?_
    refine W.lcmp hx hb dL_law_1577 ?_
    refine lv_if_eq (tgt := 1583) hx hb dL_law_1578 (by decide) (fun _ => ?_) (fun c_x => absurd (lgc_eq.mpr (by rw [hc9.2 c_1])) c_x)
    refine lv_goto (tgt := 3946) hx hb dL_law_1583 (by decide) ?_
    refine W.widen (k := cells + 200) (n := slots + 5000) (by first | exact Nat.le_of_eq (Nat.add_assoc _ _ _) | omega) (by first | exact Nat.le_of_eq (Nat.add_assoc _ _ _) | omega) ?_
    exact kk n9 sv9 S9 ((gX2_plusWeeks T p0 p1).2) _ _ ls (rel_plusWeeks hR h9) hP hD hS (lv_sub hl [2, 3, 4, 5, 6] rfl)

set_option maxRecDepth 100000 in
set_option maxHeartbeats 4000000 in
theorem case_plusDays {p : Program} {l : Launch} {e : Env} {s : State} {m : MethodId} {below : List Frame} {meth : Method} {c : Code} {Q : State → Prop} {G : GT} {b9 L9 : Nat} {xs : Nat → Int32} {a bb : Nat → Nat} {o : Nat} (Z : LW p l s m meth c G b9 L9 xs) {i cells slots : Nat} (hi : i + 6 ≤ L9) (hf : cells + 200 ≤ room_1.cells ∧ slots + 5000 ≤ room_1.slots) {n : Int64} {sv : Value} {S : SX} {T : SM} (hR : Rel S T) {H : Heap} {locs : List Loc} {ls : Array Slot} (hP : va_P (gD G) vwCl (wM G bb T ++ wH G a o n sv S) H) (hD : va_D (fun q : Nat => s.heap.size ≤ q) (wM G bb T ++ wH G a o n sv S)) (hS : va_S (fun q : Nat => s.heap.size ≤ q) s.heap H locs) (hl : lv_has ls 7 [(0, .ref b9), (1, .ref (a 0)), (2, .ref (bb 0)), (3, .ref o), (4, .int (nI i))]) (kk : ∀ (n : Int64) (sv : Value) (S : SX) (T : SM) (H : Heap) (locs : List Loc) (ls : Array Slot), Rel S T → va_P (gD G) vwCl (wM G bb T ++ wH G a o n sv S) H → va_D (fun q : Nat => s.heap.size ≤ q) (wM G bb T ++ wH G a o n sv S) → va_S (fun q : Nat => s.heap.size ≤ q) s.heap H locs → lv_has ls 7 [(0, .ref b9), (1, .ref (a 0)), (2, .ref (bb 0)), (3, .ref o), (4, .int (nI i))] → W p l e room_1 s m #[Value.ref b9] below meth c H locs (cells + 200) (slots + 5000) Q (F0 m 3946 ls [])) : W p l e room_1 s m #[Value.ref b9] below meth c H locs (cells) (slots) Q (F0 m 1586 ls []) := by
  obtain ⟨C, hE, hN, hX, hbl, hl9, hL9, hA, hAB, hbA⟩ := Z
  have hx := C.1
  have hb := C.2.1
  have hml := C.2.2.1
  have hown := C.2.2.2.1
  have hw := C.2.2.2.2
  obtain ⟨hf0, hf1, hf2⟩ := lw_hf hf
  have hf3 := hf2
  obtain ⟨p0, hp0⟩ : ∃ y : Int32, xs (nI (i + 1)).toNatClampNeg = y := ⟨_, rfl⟩
  obtain ⟨p1, hp1⟩ : ∃ y : Int32, xs (nI (i + 2)).toNatClampNeg = y := ⟨_, rfl⟩
  refine lv_aload_n hx hb dL_law_1586 rfl (lv_at hl 1 rfl) ?_
  refine lv_aload_n hx hb dL_law_1587 rfl (lv_at hl 0 rfl) ?_
  refine lv_iload hx hb dL_law_1588 (lv_at hl 4 rfl) ?_
  refine lv_iconst (v := (1 : Int32)) hx hb dL_law_1590 qi_1 ?_
  refine lv_iadd hx hb dL_law_1591 ?_
  refine k_foldi (y := (nI (i + 1))) (nI_add i 1) ?_
  refine va_sld hx hb hX hbl hbA hS (lw_in hi hL9 rfl) dL_law_1592 ?_
  refine k_foldi (y := p0) hp0 ?_
  refine lv_aload_n hx hb dL_law_1593 rfl (lv_at hl 0 rfl) ?_
  refine lv_iload hx hb dL_law_1594 (lv_at hl 4 rfl) ?_
  refine lv_iconst (v := (2 : Int32)) hx hb dL_law_1596 qi_2 ?_
  refine lv_iadd hx hb dL_law_1597 ?_
  refine k_foldi (y := (nI (i + 2))) (nI_add i 2) ?_
  refine va_sld hx hb hX hbl hbA hS (lw_in hi hL9 rfl) dL_law_1598 ?_
  refine k_foldi (y := p1) hp1 ?_
  refine lv_aload_n hx hb dL_law_1599 rfl (lv_at hl 3 rfl) ?_
  refine lwHelp (n := 4) (wr := (wM G bb T)) (wd := (wH G a o n sv S)) (as := [.ref (a 0), .int p0, .int p1, .ref o]) (rest := []) C (k_plusDays l hl9 G a o n sv S p0 p1) bw578 bw56 (by decide +kernel) rfl bw576 bw577 hN (hE.S hS hAB) hP hD hS hA hAB hl.1 dL_law_1600 ⟨(Nat.le_of_ble_eq_true rfl), (Nat.le_of_ble_eq_true rfl)⟩ rfl (Nat.le_of_ble_eq_true rfl) hf1 (fun r9 wd9 H locs hp9 hP hD hS => ?_)
  obtain ⟨c9, n9, sv9, S9, rfl, rfl, h9⟩ := hp9
  refine W.eq (g2 := F0 m 1603 ls [.int c9]) rfl ?_
  refine lv_istore (lv' := [(5, .int c9), (0, .ref b9), (1, .ref (a 0)), (2, .ref (bb 0)), (3, .ref o), (4, .int (nI i))]) hx hb dL_law_1603 hl (Nat.le_of_ble_eq_true rfl) rfl (fun ls hl => ?_)
  refine lv_aload_n hx hb dL_law_1605 rfl (lv_at hl 3 rfl) ?_
  refine lv_aload_n hx hb dL_law_1606 rfl (lv_at hl 1 rfl) ?_
  refine lv_iload hx hb dL_law_1607 (lv_at hl 5 rfl) ?_
  refine lv_iconst (v := (1 : Int32)) hx hb dL_law_1609 qi_1 ?_
  refine lv_iadd hx hb dL_law_1610 ?_
  refine k_foldi (y := (nI (i + 1))) (nI_add i 1) ?_
  refine va_sld hx hb hX hbl hbA hS (lw_in hi hL9 rfl) dL_law_1611 ?_
  refine k_foldi (y := p0) hp0 ?_
  refine lv_aload_n hx hb dL_law_1612 rfl (lv_at hl 1 rfl) ?_
  refine lv_iload hx hb dL_law_1613 (lv_at hl 5 rfl) ?_
  refine lv_iconst (v := (2 : Int32)) hx hb dL_law_1615 qi_2 ?_
  refine lv_iadd hx hb dL_law_1616 ?_
  refine k_foldi (y := (nI (i + 2))) (nI_add i 2) ?_
  refine va_sld hx hb hX hbl hbA hS (lw_in hi hL9 rfl) dL_law_1617 ?_
  refine k_foldi (y := p1) hp1 ?_
  refine lwWR (MC := 170) (MS := 4200) (st1 := [.int ((gX2_plusDays T p0 p1).1)]) (wr := (wH G a o n9 sv9 S9)) (wd := (wM G bb T)) (as := [.int p0, .int p1]) (rest := []) (cl := RX2) (Nat.le_of_ble_eq_true rfl) (Nat.le_of_ble_eq_true rfl) C (c_X2_plusDays l G bb T p0 p1 (Rel.mo hR)) F_X2_plusDays rfl bw1385 bw1386 bw1387 (hE.S hS hAB) hP hD hS hA hAB (rv4 hE.K (P_tl (wr := (wH G a o n9 sv9 S9)) hP) (q0 := 0) rfl) hl.1 dL_law_1618 ⟨(Nat.le_of_ble_eq_true rfl), (Nat.le_of_ble_eq_true rfl)⟩ rfl (Nat.le_of_ble_eq_true rfl) hf2 rfl (fun H locs hP hD hS => ?_)
  have hc9 := cmp_plusDays hR h9
  refine lv_istore (lv' := [(6, .int ((gX2_plusDays T p0 p1).1)), (5, .int c9), (0, .ref b9), (1, .ref (a 0)), (2, .ref (bb 0)), (3, .ref o), (4, .int (nI i))]) hx hb dL_law_1621 hl (Nat.le_of_ble_eq_true rfl) rfl (fun ls hl => ?_)
  refine lv_aload_n hx hb dL_law_1623 rfl (lv_at hl 4 rfl) ?_
  refine rcVf (st1 := [.int (fX2_thrown ((gX2_plusDays T p0 p1).2))]) (as := []) (rest := []) (cl := RX2) C (c_X2_thrown l G bb ((gX2_plusDays T p0 p1).2)) F_X2_thrown rfl bw1200 bw1201 (hw _ bw1202) (hE.S hS hAB) (P_hd hP) (rv4 hE.K (P_hd hP) (q0 := 0) rfl) hl.1 dL_law_1624 ⟨Nat.le_of_ble_eq_true rfl, Nat.le_of_ble_eq_true rfl⟩ rfl (Nat.le_of_ble_eq_true rfl) hf3 rfl ?_
  refine k_foldi (y := c9) hc9.1 ?_
  refine lv_iload hx hb dL_law_1627 (lv_at hl 1 rfl) ?_
  refine lv_icmp_eq (tgt := 1634) hx hb dL_law_1629 (by decide) (fun _ => ?_) (fun c_x => absurd rfl c_x)
  refine lv_iload hx hb dL_law_1634 (lv_at hl 1 rfl) ?_
  refine lv_if_ne (tgt := 1652) hx hb dL_law_1636 (by decide) (fun c_1 => ?_) (fun c_1 => ?_)
  · refine lv_goto (tgt := 3946) hx hb dL_law_1652 (by decide) ?_
    refine W.widen (k := cells + 200) (n := slots + 5000) (by first | exact Nat.le_of_eq (Nat.add_assoc _ _ _) | omega) (by first | exact Nat.le_of_eq (Nat.add_assoc _ _ _) | omega) ?_
    exact kk n9 sv9 S9 ((gX2_plusDays T p0 p1).2) _ _ ls (rel_plusDays hR h9) hP hD hS (lv_sub hl [2, 3, 4, 5, 6] rfl)
  · refine lv_aload_n hx hb dL_law_1639 rfl (lv_at hl 5 rfl) ?_
    refine va_getN (D := gD G) (cl := vwCl) (tys := gT G) (ci := 3) (v := .long n9) (C := RX1) (T := TX1) (N := 2) hx hb hw inB_X1 hown hE.K hP 5 rfl rfl 0 (by decide) (va_Nw.use rfl hN.2.1) (fun _ h9 => h9) rfl dL_law_1640 ?_
    refine lv_iload hx hb dL_law_1643 (lv_at hl 0 rfl) ?_
    refine lv_i2l (v := (((gX2_plusDays T p0 p1).1).toInt64)) hx hb dL_law_1645 (by first | rfl | decide) ?_
    refine W.lcmp hx hb dL_law_1646 ?_
    refine lv_if_eq (tgt := 1652) hx hb dL_law_1647 (by decide) (fun _ => ?_) (fun c_x => absurd (lgc_eq.mpr (by rw [hc9.2 c_1])) c_x)
    refine lv_goto (tgt := 3946) hx hb dL_law_1652 (by decide) ?_
    refine W.widen (k := cells + 200) (n := slots + 5000) (by first | exact Nat.le_of_eq (Nat.add_assoc _ _ _) | omega) (by first | exact Nat.le_of_eq (Nat.add_assoc _ _ _) | omega) ?_
    exact kk n9 sv9 S9 ((gX2_plusDays T p0 p1).2) _ _ ls (rel_plusDays hR h9) hP hD hS (lv_sub hl [2, 3, 4, 5, 6] rfl)

set_option maxRecDepth 100000 in
set_option maxHeartbeats 4000000 in
theorem case_plusHours {p : Program} {l : Launch} {e : Env} {s : State} {m : MethodId} {below : List Frame} {meth : Method} {c : Code} {Q : State → Prop} {G : GT} {b9 L9 : Nat} {xs : Nat → Int32} {a bb : Nat → Nat} {o : Nat} (Z : LW p l s m meth c G b9 L9 xs) {i cells slots : Nat} (hi : i + 6 ≤ L9) (hf : cells + 200 ≤ room_1.cells ∧ slots + 5000 ≤ room_1.slots) {n : Int64} {sv : Value} {S : SX} {T : SM} (hR : Rel S T) {H : Heap} {locs : List Loc} {ls : Array Slot} (hP : va_P (gD G) vwCl (wM G bb T ++ wH G a o n sv S) H) (hD : va_D (fun q : Nat => s.heap.size ≤ q) (wM G bb T ++ wH G a o n sv S)) (hS : va_S (fun q : Nat => s.heap.size ≤ q) s.heap H locs) (hl : lv_has ls 7 [(0, .ref b9), (1, .ref (a 0)), (2, .ref (bb 0)), (3, .ref o), (4, .int (nI i))]) (kk : ∀ (n : Int64) (sv : Value) (S : SX) (T : SM) (H : Heap) (locs : List Loc) (ls : Array Slot), Rel S T → va_P (gD G) vwCl (wM G bb T ++ wH G a o n sv S) H → va_D (fun q : Nat => s.heap.size ≤ q) (wM G bb T ++ wH G a o n sv S) → va_S (fun q : Nat => s.heap.size ≤ q) s.heap H locs → lv_has ls 7 [(0, .ref b9), (1, .ref (a 0)), (2, .ref (bb 0)), (3, .ref o), (4, .int (nI i))] → W p l e room_1 s m #[Value.ref b9] below meth c H locs (cells + 200) (slots + 5000) Q (F0 m 3946 ls [])) : W p l e room_1 s m #[Value.ref b9] below meth c H locs (cells) (slots) Q (F0 m 1655 ls []) := by
  obtain ⟨C, hE, hN, hX, hbl, hl9, hL9, hA, hAB, hbA⟩ := Z
  have hx := C.1
  have hb := C.2.1
  have hml := C.2.2.1
  have hown := C.2.2.2.1
  have hw := C.2.2.2.2
  obtain ⟨hf0, hf1, hf2⟩ := lw_hf hf
  have hf3 := hf2
  obtain ⟨p0, hp0⟩ : ∃ y : Int32, xs (nI (i + 1)).toNatClampNeg = y := ⟨_, rfl⟩
  obtain ⟨p1, hp1⟩ : ∃ y : Int32, xs (nI (i + 2)).toNatClampNeg = y := ⟨_, rfl⟩
  refine lv_aload_n hx hb dL_law_1655 rfl (lv_at hl 1 rfl) ?_
  refine lv_aload_n hx hb dL_law_1656 rfl (lv_at hl 0 rfl) ?_
  refine lv_iload hx hb dL_law_1657 (lv_at hl 4 rfl) ?_
  refine lv_iconst (v := (1 : Int32)) hx hb dL_law_1659 qi_1 ?_
  refine lv_iadd hx hb dL_law_1660 ?_
  refine k_foldi (y := (nI (i + 1))) (nI_add i 1) ?_
  refine va_sld hx hb hX hbl hbA hS (lw_in hi hL9 rfl) dL_law_1661 ?_
  refine k_foldi (y := p0) hp0 ?_
  refine lv_aload_n hx hb dL_law_1662 rfl (lv_at hl 0 rfl) ?_
  refine lv_iload hx hb dL_law_1663 (lv_at hl 4 rfl) ?_
  refine lv_iconst (v := (2 : Int32)) hx hb dL_law_1665 qi_2 ?_
  refine lv_iadd hx hb dL_law_1666 ?_
  refine k_foldi (y := (nI (i + 2))) (nI_add i 2) ?_
  refine va_sld hx hb hX hbl hbA hS (lw_in hi hL9 rfl) dL_law_1667 ?_
  refine k_foldi (y := p1) hp1 ?_
  refine lv_aload_n hx hb dL_law_1668 rfl (lv_at hl 3 rfl) ?_
  refine lwHelp (n := 4) (wr := (wM G bb T)) (wd := (wH G a o n sv S)) (as := [.ref (a 0), .int p0, .int p1, .ref o]) (rest := []) C (k_plusHours l hl9 G a o n sv S p0 p1) bw585 bw56 (by decide +kernel) rfl bw583 bw584 hN (hE.S hS hAB) hP hD hS hA hAB hl.1 dL_law_1669 ⟨(Nat.le_of_ble_eq_true rfl), (Nat.le_of_ble_eq_true rfl)⟩ rfl (Nat.le_of_ble_eq_true rfl) hf1 (fun r9 wd9 H locs hp9 hP hD hS => ?_)
  obtain ⟨c9, n9, sv9, S9, rfl, rfl, h9⟩ := hp9
  refine W.eq (g2 := F0 m 1672 ls [.int c9]) rfl ?_
  refine lv_istore (lv' := [(5, .int c9), (0, .ref b9), (1, .ref (a 0)), (2, .ref (bb 0)), (3, .ref o), (4, .int (nI i))]) hx hb dL_law_1672 hl (Nat.le_of_ble_eq_true rfl) rfl (fun ls hl => ?_)
  refine lv_aload_n hx hb dL_law_1674 rfl (lv_at hl 3 rfl) ?_
  refine lv_aload_n hx hb dL_law_1675 rfl (lv_at hl 1 rfl) ?_
  refine lv_iload hx hb dL_law_1676 (lv_at hl 5 rfl) ?_
  refine lv_iconst (v := (1 : Int32)) hx hb dL_law_1678 qi_1 ?_
  refine lv_iadd hx hb dL_law_1679 ?_
  refine k_foldi (y := (nI (i + 1))) (nI_add i 1) ?_
  refine va_sld hx hb hX hbl hbA hS (lw_in hi hL9 rfl) dL_law_1680 ?_
  refine k_foldi (y := p0) hp0 ?_
  refine lv_aload_n hx hb dL_law_1681 rfl (lv_at hl 1 rfl) ?_
  refine lv_iload hx hb dL_law_1682 (lv_at hl 5 rfl) ?_
  refine lv_iconst (v := (2 : Int32)) hx hb dL_law_1684 qi_2 ?_
  refine lv_iadd hx hb dL_law_1685 ?_
  refine k_foldi (y := (nI (i + 2))) (nI_add i 2) ?_
  refine va_sld hx hb hX hbl hbA hS (lw_in hi hL9 rfl) dL_law_1686 ?_
  refine k_foldi (y := p1) hp1 ?_
  refine lwWR (MC := 170) (MS := 4200) (st1 := [.int ((gX2_plusHours T p0 p1).1)]) (wr := (wH G a o n9 sv9 S9)) (wd := (wM G bb T)) (as := [.int p0, .int p1]) (rest := []) (cl := RX2) (Nat.le_of_ble_eq_true rfl) (Nat.le_of_ble_eq_true rfl) C (c_X2_plusHours l G bb T p0 p1 (Rel.mo hR)) F_X2_plusHours rfl bw1389 bw1390 bw1391 (hE.S hS hAB) hP hD hS hA hAB (rv4 hE.K (P_tl (wr := (wH G a o n9 sv9 S9)) hP) (q0 := 0) rfl) hl.1 dL_law_1687 ⟨(Nat.le_of_ble_eq_true rfl), (Nat.le_of_ble_eq_true rfl)⟩ rfl (Nat.le_of_ble_eq_true rfl) hf2 rfl (fun H locs hP hD hS => ?_)
  have hc9 := cmp_plusHours hR h9
  refine lv_istore (lv' := [(6, .int ((gX2_plusHours T p0 p1).1)), (5, .int c9), (0, .ref b9), (1, .ref (a 0)), (2, .ref (bb 0)), (3, .ref o), (4, .int (nI i))]) hx hb dL_law_1690 hl (Nat.le_of_ble_eq_true rfl) rfl (fun ls hl => ?_)
  refine lv_aload_n hx hb dL_law_1692 rfl (lv_at hl 4 rfl) ?_
  refine rcVf (st1 := [.int (fX2_thrown ((gX2_plusHours T p0 p1).2))]) (as := []) (rest := []) (cl := RX2) C (c_X2_thrown l G bb ((gX2_plusHours T p0 p1).2)) F_X2_thrown rfl bw1200 bw1201 (hw _ bw1202) (hE.S hS hAB) (P_hd hP) (rv4 hE.K (P_hd hP) (q0 := 0) rfl) hl.1 dL_law_1693 ⟨Nat.le_of_ble_eq_true rfl, Nat.le_of_ble_eq_true rfl⟩ rfl (Nat.le_of_ble_eq_true rfl) hf3 rfl ?_
  refine k_foldi (y := c9) hc9.1 ?_
  refine lv_iload hx hb dL_law_1696 (lv_at hl 1 rfl) ?_
  refine lv_icmp_eq (tgt := 1703) hx hb dL_law_1698 (by decide) (fun _ => ?_) (fun c_x => absurd rfl c_x)
  refine lv_iload hx hb dL_law_1703 (lv_at hl 1 rfl) ?_
  refine lv_if_ne (tgt := 1721) hx hb dL_law_1705 (by decide) (fun c_1 => ?_) (fun c_1 => ?_)
  · refine lv_goto (tgt := 3946) hx hb dL_law_1721 (by decide) ?_
    refine W.widen (k := cells + 200) (n := slots + 5000) (by first | exact Nat.le_of_eq (Nat.add_assoc _ _ _) | omega) (by first | exact Nat.le_of_eq (Nat.add_assoc _ _ _) | omega) ?_
    exact kk n9 sv9 S9 ((gX2_plusHours T p0 p1).2) _ _ ls (rel_plusHours hR h9) hP hD hS (lv_sub hl [2, 3, 4, 5, 6] rfl)
  · refine lv_aload_n hx hb dL_law_1708 rfl (lv_at hl 5 rfl) ?_
    refine va_getN (D := gD G) (cl := vwCl) (tys := gT G) (ci := 3) (v := .long n9) (C := RX1) (T := TX1) (N := 2) hx hb hw inB_X1 hown hE.K hP 5 rfl rfl 0 (by decide) (va_Nw.use rfl hN.2.1) (fun _ h9 => h9) rfl dL_law_1709 ?_
    refine lv_iload hx hb dL_law_1712 (lv_at hl 0 rfl) ?_
    refine lv_i2l (v := (((gX2_plusHours T p0 p1).1).toInt64)) hx hb dL_law_1714 (by first | rfl | decide) ?_
    refine W.lcmp hx hb dL_law_1715 ?_
    refine lv_if_eq (tgt := 1721) hx hb dL_law_1716 (by decide) (fun _ => ?_) (fun c_x => absurd (lgc_eq.mpr (by rw [hc9.2 c_1])) c_x)
    refine lv_goto (tgt := 3946) hx hb dL_law_1721 (by decide) ?_
    refine W.widen (k := cells + 200) (n := slots + 5000) (by first | exact Nat.le_of_eq (Nat.add_assoc _ _ _) | omega) (by first | exact Nat.le_of_eq (Nat.add_assoc _ _ _) | omega) ?_
    exact kk n9 sv9 S9 ((gX2_plusHours T p0 p1).2) _ _ ls (rel_plusHours hR h9) hP hD hS (lv_sub hl [2, 3, 4, 5, 6] rfl)

set_option maxRecDepth 100000 in
set_option maxHeartbeats 4000000 in
theorem case_plusMinutes {p : Program} {l : Launch} {e : Env} {s : State} {m : MethodId} {below : List Frame} {meth : Method} {c : Code} {Q : State → Prop} {G : GT} {b9 L9 : Nat} {xs : Nat → Int32} {a bb : Nat → Nat} {o : Nat} (Z : LW p l s m meth c G b9 L9 xs) {i cells slots : Nat} (hi : i + 6 ≤ L9) (hf : cells + 200 ≤ room_1.cells ∧ slots + 5000 ≤ room_1.slots) {n : Int64} {sv : Value} {S : SX} {T : SM} (hR : Rel S T) {H : Heap} {locs : List Loc} {ls : Array Slot} (hP : va_P (gD G) vwCl (wM G bb T ++ wH G a o n sv S) H) (hD : va_D (fun q : Nat => s.heap.size ≤ q) (wM G bb T ++ wH G a o n sv S)) (hS : va_S (fun q : Nat => s.heap.size ≤ q) s.heap H locs) (hl : lv_has ls 7 [(0, .ref b9), (1, .ref (a 0)), (2, .ref (bb 0)), (3, .ref o), (4, .int (nI i))]) (kk : ∀ (n : Int64) (sv : Value) (S : SX) (T : SM) (H : Heap) (locs : List Loc) (ls : Array Slot), Rel S T → va_P (gD G) vwCl (wM G bb T ++ wH G a o n sv S) H → va_D (fun q : Nat => s.heap.size ≤ q) (wM G bb T ++ wH G a o n sv S) → va_S (fun q : Nat => s.heap.size ≤ q) s.heap H locs → lv_has ls 7 [(0, .ref b9), (1, .ref (a 0)), (2, .ref (bb 0)), (3, .ref o), (4, .int (nI i))] → W p l e room_1 s m #[Value.ref b9] below meth c H locs (cells + 200) (slots + 5000) Q (F0 m 3946 ls [])) : W p l e room_1 s m #[Value.ref b9] below meth c H locs (cells) (slots) Q (F0 m 1724 ls []) := by
  obtain ⟨C, hE, hN, hX, hbl, hl9, hL9, hA, hAB, hbA⟩ := Z
  have hx := C.1
  have hb := C.2.1
  have hml := C.2.2.1
  have hown := C.2.2.2.1
  have hw := C.2.2.2.2
  obtain ⟨hf0, hf1, hf2⟩ := lw_hf hf
  have hf3 := hf2
  obtain ⟨p0, hp0⟩ : ∃ y : Int32, xs (nI (i + 1)).toNatClampNeg = y := ⟨_, rfl⟩
  obtain ⟨p1, hp1⟩ : ∃ y : Int32, xs (nI (i + 2)).toNatClampNeg = y := ⟨_, rfl⟩
  refine lv_aload_n hx hb dL_law_1724 rfl (lv_at hl 1 rfl) ?_
  refine lv_aload_n hx hb dL_law_1725 rfl (lv_at hl 0 rfl) ?_
  refine lv_iload hx hb dL_law_1726 (lv_at hl 4 rfl) ?_
  refine lv_iconst (v := (1 : Int32)) hx hb dL_law_1728 qi_1 ?_
  refine lv_iadd hx hb dL_law_1729 ?_
  refine k_foldi (y := (nI (i + 1))) (nI_add i 1) ?_
  refine va_sld hx hb hX hbl hbA hS (lw_in hi hL9 rfl) dL_law_1730 ?_
  refine k_foldi (y := p0) hp0 ?_
  refine lv_aload_n hx hb dL_law_1731 rfl (lv_at hl 0 rfl) ?_
  refine lv_iload hx hb dL_law_1732 (lv_at hl 4 rfl) ?_
  refine lv_iconst (v := (2 : Int32)) hx hb dL_law_1734 qi_2 ?_
  refine lv_iadd hx hb dL_law_1735 ?_
  refine k_foldi (y := (nI (i + 2))) (nI_add i 2) ?_
  refine va_sld hx hb hX hbl hbA hS (lw_in hi hL9 rfl) dL_law_1736 ?_
  refine k_foldi (y := p1) hp1 ?_
  refine lv_aload_n hx hb dL_law_1737 rfl (lv_at hl 3 rfl) ?_
  refine lwHelp (n := 4) (wr := (wM G bb T)) (wd := (wH G a o n sv S)) (as := [.ref (a 0), .int p0, .int p1, .ref o]) (rest := []) C (k_plusMinutes l hl9 G a o n sv S p0 p1) bw592 bw56 (by decide +kernel) rfl bw590 bw591 hN (hE.S hS hAB) hP hD hS hA hAB hl.1 dL_law_1738 ⟨(Nat.le_of_ble_eq_true rfl), (Nat.le_of_ble_eq_true rfl)⟩ rfl (Nat.le_of_ble_eq_true rfl) hf1 (fun r9 wd9 H locs hp9 hP hD hS => ?_)
  obtain ⟨c9, n9, sv9, S9, rfl, rfl, h9⟩ := hp9
  refine W.eq (g2 := F0 m 1741 ls [.int c9]) rfl ?_
  refine lv_istore (lv' := [(5, .int c9), (0, .ref b9), (1, .ref (a 0)), (2, .ref (bb 0)), (3, .ref o), (4, .int (nI i))]) hx hb dL_law_1741 hl (Nat.le_of_ble_eq_true rfl) rfl (fun ls hl => ?_)
  refine lv_aload_n hx hb dL_law_1743 rfl (lv_at hl 3 rfl) ?_
  refine lv_aload_n hx hb dL_law_1744 rfl (lv_at hl 1 rfl) ?_
  refine lv_iload hx hb dL_law_1745 (lv_at hl 5 rfl) ?_
  refine lv_iconst (v := (1 : Int32)) hx hb dL_law_1747 qi_1 ?_
  refine lv_iadd hx hb dL_law_1748 ?_
  refine k_foldi (y := (nI (i + 1))) (nI_add i 1) ?_
  refine va_sld hx hb hX hbl hbA hS (lw_in hi hL9 rfl) dL_law_1749 ?_
  refine k_foldi (y := p0) hp0 ?_
  refine lv_aload_n hx hb dL_law_1750 rfl (lv_at hl 1 rfl) ?_
  refine lv_iload hx hb dL_law_1751 (lv_at hl 5 rfl) ?_
  refine lv_iconst (v := (2 : Int32)) hx hb dL_law_1753 qi_2 ?_
  refine lv_iadd hx hb dL_law_1754 ?_
  refine k_foldi (y := (nI (i + 2))) (nI_add i 2) ?_
  refine va_sld hx hb hX hbl hbA hS (lw_in hi hL9 rfl) dL_law_1755 ?_
  refine k_foldi (y := p1) hp1 ?_
  refine lwWR (MC := 170) (MS := 4200) (st1 := [.int ((gX2_plusMinutes T p0 p1).1)]) (wr := (wH G a o n9 sv9 S9)) (wd := (wM G bb T)) (as := [.int p0, .int p1]) (rest := []) (cl := RX2) (Nat.le_of_ble_eq_true rfl) (Nat.le_of_ble_eq_true rfl) C (c_X2_plusMinutes l G bb T p0 p1 (Rel.mo hR)) F_X2_plusMinutes rfl bw1393 bw1394 bw1395 (hE.S hS hAB) hP hD hS hA hAB (rv4 hE.K (P_tl (wr := (wH G a o n9 sv9 S9)) hP) (q0 := 0) rfl) hl.1 dL_law_1756 ⟨(Nat.le_of_ble_eq_true rfl), (Nat.le_of_ble_eq_true rfl)⟩ rfl (Nat.le_of_ble_eq_true rfl) hf2 rfl (fun H locs hP hD hS => ?_)
  have hc9 := cmp_plusMinutes hR h9
  refine lv_istore (lv' := [(6, .int ((gX2_plusMinutes T p0 p1).1)), (5, .int c9), (0, .ref b9), (1, .ref (a 0)), (2, .ref (bb 0)), (3, .ref o), (4, .int (nI i))]) hx hb dL_law_1759 hl (Nat.le_of_ble_eq_true rfl) rfl (fun ls hl => ?_)
  refine lv_aload_n hx hb dL_law_1761 rfl (lv_at hl 4 rfl) ?_
  refine rcVf (st1 := [.int (fX2_thrown ((gX2_plusMinutes T p0 p1).2))]) (as := []) (rest := []) (cl := RX2) C (c_X2_thrown l G bb ((gX2_plusMinutes T p0 p1).2)) F_X2_thrown rfl bw1200 bw1201 (hw _ bw1202) (hE.S hS hAB) (P_hd hP) (rv4 hE.K (P_hd hP) (q0 := 0) rfl) hl.1 dL_law_1762 ⟨Nat.le_of_ble_eq_true rfl, Nat.le_of_ble_eq_true rfl⟩ rfl (Nat.le_of_ble_eq_true rfl) hf3 rfl ?_
  refine k_foldi (y := c9) hc9.1 ?_
  refine lv_iload hx hb dL_law_1765 (lv_at hl 1 rfl) ?_
  refine lv_icmp_eq (tgt := 1772) hx hb dL_law_1767 (by decide) (fun _ => ?_) (fun c_x => absurd rfl c_x)
  refine lv_iload hx hb dL_law_1772 (lv_at hl 1 rfl) ?_
  refine lv_if_ne (tgt := 1790) hx hb dL_law_1774 (by decide) (fun c_1 => ?_) (fun c_1 => ?_)
  · refine lv_goto (tgt := 3946) hx hb dL_law_1790 (by decide) ?_
    refine W.widen (k := cells + 200) (n := slots + 5000) (by first | exact Nat.le_of_eq (Nat.add_assoc _ _ _) | omega) (by first | exact Nat.le_of_eq (Nat.add_assoc _ _ _) | omega) ?_
    exact kk n9 sv9 S9 ((gX2_plusMinutes T p0 p1).2) _ _ ls (rel_plusMinutes hR h9) hP hD hS (lv_sub hl [2, 3, 4, 5, 6] rfl)
  · refine lv_aload_n hx hb dL_law_1777 rfl (lv_at hl 5 rfl) ?_
    refine va_getN (D := gD G) (cl := vwCl) (tys := gT G) (ci := 3) (v := .long n9) (C := RX1) (T := TX1) (N := 2) hx hb hw inB_X1 hown hE.K hP 5 rfl rfl 0 (by decide) (va_Nw.use rfl hN.2.1) (fun _ h9 => h9) rfl dL_law_1778 ?_
    refine lv_iload hx hb dL_law_1781 (lv_at hl 0 rfl) ?_
    refine lv_i2l (v := (((gX2_plusMinutes T p0 p1).1).toInt64)) hx hb dL_law_1783 (by first | rfl | decide) ?_
    refine W.lcmp hx hb dL_law_1784 ?_
    refine lv_if_eq (tgt := 1790) hx hb dL_law_1785 (by decide) (fun _ => ?_) (fun c_x => absurd (lgc_eq.mpr (by rw [hc9.2 c_1])) c_x)
    refine lv_goto (tgt := 3946) hx hb dL_law_1790 (by decide) ?_
    refine W.widen (k := cells + 200) (n := slots + 5000) (by first | exact Nat.le_of_eq (Nat.add_assoc _ _ _) | omega) (by first | exact Nat.le_of_eq (Nat.add_assoc _ _ _) | omega) ?_
    exact kk n9 sv9 S9 ((gX2_plusMinutes T p0 p1).2) _ _ ls (rel_plusMinutes hR h9) hP hD hS (lv_sub hl [2, 3, 4, 5, 6] rfl)

set_option maxRecDepth 100000 in
set_option maxHeartbeats 4000000 in
theorem case_plusSeconds {p : Program} {l : Launch} {e : Env} {s : State} {m : MethodId} {below : List Frame} {meth : Method} {c : Code} {Q : State → Prop} {G : GT} {b9 L9 : Nat} {xs : Nat → Int32} {a bb : Nat → Nat} {o : Nat} (Z : LW p l s m meth c G b9 L9 xs) {i cells slots : Nat} (hi : i + 6 ≤ L9) (hf : cells + 200 ≤ room_1.cells ∧ slots + 5000 ≤ room_1.slots) {n : Int64} {sv : Value} {S : SX} {T : SM} (hR : Rel S T) {H : Heap} {locs : List Loc} {ls : Array Slot} (hP : va_P (gD G) vwCl (wM G bb T ++ wH G a o n sv S) H) (hD : va_D (fun q : Nat => s.heap.size ≤ q) (wM G bb T ++ wH G a o n sv S)) (hS : va_S (fun q : Nat => s.heap.size ≤ q) s.heap H locs) (hl : lv_has ls 7 [(0, .ref b9), (1, .ref (a 0)), (2, .ref (bb 0)), (3, .ref o), (4, .int (nI i))]) (kk : ∀ (n : Int64) (sv : Value) (S : SX) (T : SM) (H : Heap) (locs : List Loc) (ls : Array Slot), Rel S T → va_P (gD G) vwCl (wM G bb T ++ wH G a o n sv S) H → va_D (fun q : Nat => s.heap.size ≤ q) (wM G bb T ++ wH G a o n sv S) → va_S (fun q : Nat => s.heap.size ≤ q) s.heap H locs → lv_has ls 7 [(0, .ref b9), (1, .ref (a 0)), (2, .ref (bb 0)), (3, .ref o), (4, .int (nI i))] → W p l e room_1 s m #[Value.ref b9] below meth c H locs (cells + 200) (slots + 5000) Q (F0 m 3946 ls [])) : W p l e room_1 s m #[Value.ref b9] below meth c H locs (cells) (slots) Q (F0 m 1793 ls []) := by
  obtain ⟨C, hE, hN, hX, hbl, hl9, hL9, hA, hAB, hbA⟩ := Z
  have hx := C.1
  have hb := C.2.1
  have hml := C.2.2.1
  have hown := C.2.2.2.1
  have hw := C.2.2.2.2
  obtain ⟨hf0, hf1, hf2⟩ := lw_hf hf
  have hf3 := hf2
  obtain ⟨p0, hp0⟩ : ∃ y : Int32, xs (nI (i + 1)).toNatClampNeg = y := ⟨_, rfl⟩
  obtain ⟨p1, hp1⟩ : ∃ y : Int32, xs (nI (i + 2)).toNatClampNeg = y := ⟨_, rfl⟩
  refine lv_aload_n hx hb dL_law_1793 rfl (lv_at hl 1 rfl) ?_
  refine lv_aload_n hx hb dL_law_1794 rfl (lv_at hl 0 rfl) ?_
  refine lv_iload hx hb dL_law_1795 (lv_at hl 4 rfl) ?_
  refine lv_iconst (v := (1 : Int32)) hx hb dL_law_1797 qi_1 ?_
  refine lv_iadd hx hb dL_law_1798 ?_
  refine k_foldi (y := (nI (i + 1))) (nI_add i 1) ?_
  refine va_sld hx hb hX hbl hbA hS (lw_in hi hL9 rfl) dL_law_1799 ?_
  refine k_foldi (y := p0) hp0 ?_
  refine lv_aload_n hx hb dL_law_1800 rfl (lv_at hl 0 rfl) ?_
  refine lv_iload hx hb dL_law_1801 (lv_at hl 4 rfl) ?_
  refine lv_iconst (v := (2 : Int32)) hx hb dL_law_1803 qi_2 ?_
  refine lv_iadd hx hb dL_law_1804 ?_
  refine k_foldi (y := (nI (i + 2))) (nI_add i 2) ?_
  refine va_sld hx hb hX hbl hbA hS (lw_in hi hL9 rfl) dL_law_1805 ?_
  refine k_foldi (y := p1) hp1 ?_
  refine lv_aload_n hx hb dL_law_1806 rfl (lv_at hl 3 rfl) ?_
  refine lwHelp (n := 4) (wr := (wM G bb T)) (wd := (wH G a o n sv S)) (as := [.ref (a 0), .int p0, .int p1, .ref o]) (rest := []) C (k_plusSeconds l hl9 G a o n sv S p0 p1) bw599 bw56 (by decide +kernel) rfl bw597 bw598 hN (hE.S hS hAB) hP hD hS hA hAB hl.1 dL_law_1807 ⟨(Nat.le_of_ble_eq_true rfl), (Nat.le_of_ble_eq_true rfl)⟩ rfl (Nat.le_of_ble_eq_true rfl) hf1 (fun r9 wd9 H locs hp9 hP hD hS => ?_)
  obtain ⟨c9, n9, sv9, S9, rfl, rfl, h9⟩ := hp9
  refine W.eq (g2 := F0 m 1810 ls [.int c9]) rfl ?_
  refine lv_istore (lv' := [(5, .int c9), (0, .ref b9), (1, .ref (a 0)), (2, .ref (bb 0)), (3, .ref o), (4, .int (nI i))]) hx hb dL_law_1810 hl (Nat.le_of_ble_eq_true rfl) rfl (fun ls hl => ?_)
  refine lv_aload_n hx hb dL_law_1812 rfl (lv_at hl 3 rfl) ?_
  refine lv_aload_n hx hb dL_law_1813 rfl (lv_at hl 1 rfl) ?_
  refine lv_iload hx hb dL_law_1814 (lv_at hl 5 rfl) ?_
  refine lv_iconst (v := (1 : Int32)) hx hb dL_law_1816 qi_1 ?_
  refine lv_iadd hx hb dL_law_1817 ?_
  refine k_foldi (y := (nI (i + 1))) (nI_add i 1) ?_
  refine va_sld hx hb hX hbl hbA hS (lw_in hi hL9 rfl) dL_law_1818 ?_
  refine k_foldi (y := p0) hp0 ?_
  refine lv_aload_n hx hb dL_law_1819 rfl (lv_at hl 1 rfl) ?_
  refine lv_iload hx hb dL_law_1820 (lv_at hl 5 rfl) ?_
  refine lv_iconst (v := (2 : Int32)) hx hb dL_law_1822 qi_2 ?_
  refine lv_iadd hx hb dL_law_1823 ?_
  refine k_foldi (y := (nI (i + 2))) (nI_add i 2) ?_
  refine va_sld hx hb hX hbl hbA hS (lw_in hi hL9 rfl) dL_law_1824 ?_
  refine k_foldi (y := p1) hp1 ?_
  refine lwWR (MC := 170) (MS := 4200) (st1 := [.int ((gX2_plusSeconds T p0 p1).1)]) (wr := (wH G a o n9 sv9 S9)) (wd := (wM G bb T)) (as := [.int p0, .int p1]) (rest := []) (cl := RX2) (Nat.le_of_ble_eq_true rfl) (Nat.le_of_ble_eq_true rfl) C (c_X2_plusSeconds l G bb T p0 p1 (Rel.mo hR)) F_X2_plusSeconds rfl bw1397 bw1398 bw1399 (hE.S hS hAB) hP hD hS hA hAB (rv4 hE.K (P_tl (wr := (wH G a o n9 sv9 S9)) hP) (q0 := 0) rfl) hl.1 dL_law_1825 ⟨(Nat.le_of_ble_eq_true rfl), (Nat.le_of_ble_eq_true rfl)⟩ rfl (Nat.le_of_ble_eq_true rfl) hf2 rfl (fun H locs hP hD hS => ?_)
  have hc9 := cmp_plusSeconds hR h9
  refine lv_istore (lv' := [(6, .int ((gX2_plusSeconds T p0 p1).1)), (5, .int c9), (0, .ref b9), (1, .ref (a 0)), (2, .ref (bb 0)), (3, .ref o), (4, .int (nI i))]) hx hb dL_law_1828 hl (Nat.le_of_ble_eq_true rfl) rfl (fun ls hl => ?_)
  refine lv_aload_n hx hb dL_law_1830 rfl (lv_at hl 4 rfl) ?_
  refine rcVf (st1 := [.int (fX2_thrown ((gX2_plusSeconds T p0 p1).2))]) (as := []) (rest := []) (cl := RX2) C (c_X2_thrown l G bb ((gX2_plusSeconds T p0 p1).2)) F_X2_thrown rfl bw1200 bw1201 (hw _ bw1202) (hE.S hS hAB) (P_hd hP) (rv4 hE.K (P_hd hP) (q0 := 0) rfl) hl.1 dL_law_1831 ⟨Nat.le_of_ble_eq_true rfl, Nat.le_of_ble_eq_true rfl⟩ rfl (Nat.le_of_ble_eq_true rfl) hf3 rfl ?_
  refine k_foldi (y := c9) hc9.1 ?_
  refine lv_iload hx hb dL_law_1834 (lv_at hl 1 rfl) ?_
  refine lv_icmp_eq (tgt := 1841) hx hb dL_law_1836 (by decide) (fun _ => ?_) (fun c_x => absurd rfl c_x)
  refine lv_iload hx hb dL_law_1841 (lv_at hl 1 rfl) ?_
  refine lv_if_ne (tgt := 1859) hx hb dL_law_1843 (by decide) (fun c_1 => ?_) (fun c_1 => ?_)
  · refine lv_goto (tgt := 3946) hx hb dL_law_1859 (by decide) ?_
    refine W.widen (k := cells + 200) (n := slots + 5000) (by first | exact Nat.le_of_eq (Nat.add_assoc _ _ _) | omega) (by first | exact Nat.le_of_eq (Nat.add_assoc _ _ _) | omega) ?_
    exact kk n9 sv9 S9 ((gX2_plusSeconds T p0 p1).2) _ _ ls (rel_plusSeconds hR h9) hP hD hS (lv_sub hl [2, 3, 4, 5, 6] rfl)
  · refine lv_aload_n hx hb dL_law_1846 rfl (lv_at hl 5 rfl) ?_
    refine va_getN (D := gD G) (cl := vwCl) (tys := gT G) (ci := 3) (v := .long n9) (C := RX1) (T := TX1) (N := 2) hx hb hw inB_X1 hown hE.K hP 5 rfl rfl 0 (by decide) (va_Nw.use rfl hN.2.1) (fun _ h9 => h9) rfl dL_law_1847 ?_
    refine lv_iload hx hb dL_law_1850 (lv_at hl 0 rfl) ?_
    refine lv_i2l (v := (((gX2_plusSeconds T p0 p1).1).toInt64)) hx hb dL_law_1852 (by first | rfl | decide) ?_
    refine W.lcmp hx hb dL_law_1853 ?_
    refine lv_if_eq (tgt := 1859) hx hb dL_law_1854 (by decide) (fun _ => ?_) (fun c_x => absurd (lgc_eq.mpr (by rw [hc9.2 c_1])) c_x)
    refine lv_goto (tgt := 3946) hx hb dL_law_1859 (by decide) ?_
    refine W.widen (k := cells + 200) (n := slots + 5000) (by first | exact Nat.le_of_eq (Nat.add_assoc _ _ _) | omega) (by first | exact Nat.le_of_eq (Nat.add_assoc _ _ _) | omega) ?_
    exact kk n9 sv9 S9 ((gX2_plusSeconds T p0 p1).2) _ _ ls (rel_plusSeconds hR h9) hP hD hS (lv_sub hl [2, 3, 4, 5, 6] rfl)

set_option maxRecDepth 100000 in
set_option maxHeartbeats 4000000 in
theorem case_minusYears {p : Program} {l : Launch} {e : Env} {s : State} {m : MethodId} {below : List Frame} {meth : Method} {c : Code} {Q : State → Prop} {G : GT} {b9 L9 : Nat} {xs : Nat → Int32} {a bb : Nat → Nat} {o : Nat} (Z : LW p l s m meth c G b9 L9 xs) {i cells slots : Nat} (hi : i + 6 ≤ L9) (hf : cells + 200 ≤ room_1.cells ∧ slots + 5000 ≤ room_1.slots) {n : Int64} {sv : Value} {S : SX} {T : SM} (hR : Rel S T) {H : Heap} {locs : List Loc} {ls : Array Slot} (hP : va_P (gD G) vwCl (wM G bb T ++ wH G a o n sv S) H) (hD : va_D (fun q : Nat => s.heap.size ≤ q) (wM G bb T ++ wH G a o n sv S)) (hS : va_S (fun q : Nat => s.heap.size ≤ q) s.heap H locs) (hl : lv_has ls 7 [(0, .ref b9), (1, .ref (a 0)), (2, .ref (bb 0)), (3, .ref o), (4, .int (nI i))]) (kk : ∀ (n : Int64) (sv : Value) (S : SX) (T : SM) (H : Heap) (locs : List Loc) (ls : Array Slot), Rel S T → va_P (gD G) vwCl (wM G bb T ++ wH G a o n sv S) H → va_D (fun q : Nat => s.heap.size ≤ q) (wM G bb T ++ wH G a o n sv S) → va_S (fun q : Nat => s.heap.size ≤ q) s.heap H locs → lv_has ls 7 [(0, .ref b9), (1, .ref (a 0)), (2, .ref (bb 0)), (3, .ref o), (4, .int (nI i))] → W p l e room_1 s m #[Value.ref b9] below meth c H locs (cells + 200) (slots + 5000) Q (F0 m 3946 ls [])) : W p l e room_1 s m #[Value.ref b9] below meth c H locs (cells) (slots) Q (F0 m 1862 ls []) := by
  obtain ⟨C, hE, hN, hX, hbl, hl9, hL9, hA, hAB, hbA⟩ := Z
  have hx := C.1
  have hb := C.2.1
  have hml := C.2.2.1
  have hown := C.2.2.2.1
  have hw := C.2.2.2.2
  obtain ⟨hf0, hf1, hf2⟩ := lw_hf hf
  have hf3 := hf2
  obtain ⟨p0, hp0⟩ : ∃ y : Int32, xs (nI (i + 1)).toNatClampNeg = y := ⟨_, rfl⟩
  obtain ⟨p1, hp1⟩ : ∃ y : Int32, xs (nI (i + 2)).toNatClampNeg = y := ⟨_, rfl⟩
  refine lv_aload_n hx hb dL_law_1862 rfl (lv_at hl 1 rfl) ?_
  refine lv_aload_n hx hb dL_law_1863 rfl (lv_at hl 0 rfl) ?_
  refine lv_iload hx hb dL_law_1864 (lv_at hl 4 rfl) ?_
  refine lv_iconst (v := (1 : Int32)) hx hb dL_law_1866 qi_1 ?_
  refine lv_iadd hx hb dL_law_1867 ?_
  refine k_foldi (y := (nI (i + 1))) (nI_add i 1) ?_
  refine va_sld hx hb hX hbl hbA hS (lw_in hi hL9 rfl) dL_law_1868 ?_
  refine k_foldi (y := p0) hp0 ?_
  refine lv_aload_n hx hb dL_law_1869 rfl (lv_at hl 0 rfl) ?_
  refine lv_iload hx hb dL_law_1870 (lv_at hl 4 rfl) ?_
  refine lv_iconst (v := (2 : Int32)) hx hb dL_law_1872 qi_2 ?_
  refine lv_iadd hx hb dL_law_1873 ?_
  refine k_foldi (y := (nI (i + 2))) (nI_add i 2) ?_
  refine va_sld hx hb hX hbl hbA hS (lw_in hi hL9 rfl) dL_law_1874 ?_
  refine k_foldi (y := p1) hp1 ?_
  refine lv_aload_n hx hb dL_law_1875 rfl (lv_at hl 3 rfl) ?_
  refine lwHelp (n := 4) (wr := (wM G bb T)) (wd := (wH G a o n sv S)) (as := [.ref (a 0), .int p0, .int p1, .ref o]) (rest := []) C (k_minusYears l hl9 G a o n sv S p0 p1) bw606 bw56 (by decide +kernel) rfl bw604 bw605 hN (hE.S hS hAB) hP hD hS hA hAB hl.1 dL_law_1876 ⟨(Nat.le_of_ble_eq_true rfl), (Nat.le_of_ble_eq_true rfl)⟩ rfl (Nat.le_of_ble_eq_true rfl) hf1 (fun r9 wd9 H locs hp9 hP hD hS => ?_)
  obtain ⟨c9, n9, sv9, S9, rfl, rfl, h9⟩ := hp9
  refine W.eq (g2 := F0 m 1879 ls [.int c9]) rfl ?_
  refine lv_istore (lv' := [(5, .int c9), (0, .ref b9), (1, .ref (a 0)), (2, .ref (bb 0)), (3, .ref o), (4, .int (nI i))]) hx hb dL_law_1879 hl (Nat.le_of_ble_eq_true rfl) rfl (fun ls hl => ?_)
  refine lv_aload_n hx hb dL_law_1881 rfl (lv_at hl 3 rfl) ?_
  refine lv_aload_n hx hb dL_law_1882 rfl (lv_at hl 1 rfl) ?_
  refine lv_iload hx hb dL_law_1883 (lv_at hl 5 rfl) ?_
  refine lv_iconst (v := (1 : Int32)) hx hb dL_law_1885 qi_1 ?_
  refine lv_iadd hx hb dL_law_1886 ?_
  refine k_foldi (y := (nI (i + 1))) (nI_add i 1) ?_
  refine va_sld hx hb hX hbl hbA hS (lw_in hi hL9 rfl) dL_law_1887 ?_
  refine k_foldi (y := p0) hp0 ?_
  refine lv_aload_n hx hb dL_law_1888 rfl (lv_at hl 1 rfl) ?_
  refine lv_iload hx hb dL_law_1889 (lv_at hl 5 rfl) ?_
  refine lv_iconst (v := (2 : Int32)) hx hb dL_law_1891 qi_2 ?_
  refine lv_iadd hx hb dL_law_1892 ?_
  refine k_foldi (y := (nI (i + 2))) (nI_add i 2) ?_
  refine va_sld hx hb hX hbl hbA hS (lw_in hi hL9 rfl) dL_law_1893 ?_
  refine k_foldi (y := p1) hp1 ?_
  refine lwWR (MC := 170) (MS := 4200) (st1 := [.int ((gX2_minusYears T p0 p1).1)]) (wr := (wH G a o n9 sv9 S9)) (wd := (wM G bb T)) (as := [.int p0, .int p1]) (rest := []) (cl := RX2) (Nat.le_of_ble_eq_true rfl) (Nat.le_of_ble_eq_true rfl) C (c_X2_minusYears l G bb T p0 p1 (Rel.mo hR)) F_X2_minusYears rfl bw1401 bw1402 bw1403 (hE.S hS hAB) hP hD hS hA hAB (rv4 hE.K (P_tl (wr := (wH G a o n9 sv9 S9)) hP) (q0 := 0) rfl) hl.1 dL_law_1894 ⟨(Nat.le_of_ble_eq_true rfl), (Nat.le_of_ble_eq_true rfl)⟩ rfl (Nat.le_of_ble_eq_true rfl) hf2 rfl (fun H locs hP hD hS => ?_)
  have hc9 := cmp_minusYears hR h9
  refine lv_istore (lv' := [(6, .int ((gX2_minusYears T p0 p1).1)), (5, .int c9), (0, .ref b9), (1, .ref (a 0)), (2, .ref (bb 0)), (3, .ref o), (4, .int (nI i))]) hx hb dL_law_1897 hl (Nat.le_of_ble_eq_true rfl) rfl (fun ls hl => ?_)
  refine lv_aload_n hx hb dL_law_1899 rfl (lv_at hl 4 rfl) ?_
  refine rcVf (st1 := [.int (fX2_thrown ((gX2_minusYears T p0 p1).2))]) (as := []) (rest := []) (cl := RX2) C (c_X2_thrown l G bb ((gX2_minusYears T p0 p1).2)) F_X2_thrown rfl bw1200 bw1201 (hw _ bw1202) (hE.S hS hAB) (P_hd hP) (rv4 hE.K (P_hd hP) (q0 := 0) rfl) hl.1 dL_law_1900 ⟨Nat.le_of_ble_eq_true rfl, Nat.le_of_ble_eq_true rfl⟩ rfl (Nat.le_of_ble_eq_true rfl) hf3 rfl ?_
  refine k_foldi (y := c9) hc9.1 ?_
  refine lv_iload hx hb dL_law_1903 (lv_at hl 1 rfl) ?_
  refine lv_icmp_eq (tgt := 1910) hx hb dL_law_1905 (by decide) (fun _ => ?_) (fun c_x => absurd rfl c_x)
  refine lv_iload hx hb dL_law_1910 (lv_at hl 1 rfl) ?_
  refine lv_if_ne (tgt := 1928) hx hb dL_law_1912 (by decide) (fun c_1 => ?_) (fun c_1 => ?_)
  · refine lv_goto (tgt := 3946) hx hb dL_law_1928 (by decide) ?_
    refine W.widen (k := cells + 200) (n := slots + 5000) (by first | exact Nat.le_of_eq (Nat.add_assoc _ _ _) | omega) (by first | exact Nat.le_of_eq (Nat.add_assoc _ _ _) | omega) ?_
    exact kk n9 sv9 S9 ((gX2_minusYears T p0 p1).2) _ _ ls (rel_minusYears hR h9) hP hD hS (lv_sub hl [2, 3, 4, 5, 6] rfl)
  · refine lv_aload_n hx hb dL_law_1915 rfl (lv_at hl 5 rfl) ?_
    refine va_getN (D := gD G) (cl := vwCl) (tys := gT G) (ci := 3) (v := .long n9) (C := RX1) (T := TX1) (N := 2) hx hb hw inB_X1 hown hE.K hP 5 rfl rfl 0 (by decide) (va_Nw.use rfl hN.2.1) (fun _ h9 => h9) rfl dL_law_1916 ?_
    refine lv_iload hx hb dL_law_1919 (lv_at hl 0 rfl) ?_
    refine lv_i2l (v := (((gX2_minusYears T p0 p1).1).toInt64)) hx hb dL_law_1921 (by first | rfl | decide) ?_
    refine W.lcmp hx hb dL_law_1922 ?_
    refine lv_if_eq (tgt := 1928) hx hb dL_law_1923 (by decide) (fun _ => ?_) (fun c_x => absurd (lgc_eq.mpr (by rw [hc9.2 c_1])) c_x)
    refine lv_goto (tgt := 3946) hx hb dL_law_1928 (by decide) ?_
    refine W.widen (k := cells + 200) (n := slots + 5000) (by first | exact Nat.le_of_eq (Nat.add_assoc _ _ _) | omega) (by first | exact Nat.le_of_eq (Nat.add_assoc _ _ _) | omega) ?_
    exact kk n9 sv9 S9 ((gX2_minusYears T p0 p1).2) _ _ ls (rel_minusYears hR h9) hP hD hS (lv_sub hl [2, 3, 4, 5, 6] rfl)

set_option maxRecDepth 100000 in
set_option maxHeartbeats 4000000 in
theorem case_minusMonths {p : Program} {l : Launch} {e : Env} {s : State} {m : MethodId} {below : List Frame} {meth : Method} {c : Code} {Q : State → Prop} {G : GT} {b9 L9 : Nat} {xs : Nat → Int32} {a bb : Nat → Nat} {o : Nat} (Z : LW p l s m meth c G b9 L9 xs) {i cells slots : Nat} (hi : i + 6 ≤ L9) (hf : cells + 200 ≤ room_1.cells ∧ slots + 5000 ≤ room_1.slots) {n : Int64} {sv : Value} {S : SX} {T : SM} (hR : Rel S T) {H : Heap} {locs : List Loc} {ls : Array Slot} (hP : va_P (gD G) vwCl (wM G bb T ++ wH G a o n sv S) H) (hD : va_D (fun q : Nat => s.heap.size ≤ q) (wM G bb T ++ wH G a o n sv S)) (hS : va_S (fun q : Nat => s.heap.size ≤ q) s.heap H locs) (hl : lv_has ls 7 [(0, .ref b9), (1, .ref (a 0)), (2, .ref (bb 0)), (3, .ref o), (4, .int (nI i))]) (kk : ∀ (n : Int64) (sv : Value) (S : SX) (T : SM) (H : Heap) (locs : List Loc) (ls : Array Slot), Rel S T → va_P (gD G) vwCl (wM G bb T ++ wH G a o n sv S) H → va_D (fun q : Nat => s.heap.size ≤ q) (wM G bb T ++ wH G a o n sv S) → va_S (fun q : Nat => s.heap.size ≤ q) s.heap H locs → lv_has ls 7 [(0, .ref b9), (1, .ref (a 0)), (2, .ref (bb 0)), (3, .ref o), (4, .int (nI i))] → W p l e room_1 s m #[Value.ref b9] below meth c H locs (cells + 200) (slots + 5000) Q (F0 m 3946 ls [])) : W p l e room_1 s m #[Value.ref b9] below meth c H locs (cells) (slots) Q (F0 m 1931 ls []) := by
  obtain ⟨C, hE, hN, hX, hbl, hl9, hL9, hA, hAB, hbA⟩ := Z
  have hx := C.1
  have hb := C.2.1
  have hml := C.2.2.1
  have hown := C.2.2.2.1
  have hw := C.2.2.2.2
  obtain ⟨hf0, hf1, hf2⟩ := lw_hf hf
  have hf3 := hf2
  obtain ⟨p0, hp0⟩ : ∃ y : Int32, xs (nI (i + 1)).toNatClampNeg = y := ⟨_, rfl⟩
  obtain ⟨p1, hp1⟩ : ∃ y : Int32, xs (nI (i + 2)).toNatClampNeg = y := ⟨_, rfl⟩
  refine lv_aload_n hx hb dL_law_1931 rfl (lv_at hl 1 rfl) ?_
  refine lv_aload_n hx hb dL_law_1932 rfl (lv_at hl 0 rfl) ?_
  refine lv_iload hx hb dL_law_1933 (lv_at hl 4 rfl) ?_
  refine lv_iconst (v := (1 : Int32)) hx hb dL_law_1935 qi_1 ?_
  refine lv_iadd hx hb dL_law_1936 ?_
  refine k_foldi (y := (nI (i + 1))) (nI_add i 1) ?_
  refine va_sld hx hb hX hbl hbA hS (lw_in hi hL9 rfl) dL_law_1937 ?_
  refine k_foldi (y := p0) hp0 ?_
  refine lv_aload_n hx hb dL_law_1938 rfl (lv_at hl 0 rfl) ?_
  refine lv_iload hx hb dL_law_1939 (lv_at hl 4 rfl) ?_
  refine lv_iconst (v := (2 : Int32)) hx hb dL_law_1941 qi_2 ?_
  refine lv_iadd hx hb dL_law_1942 ?_
  refine k_foldi (y := (nI (i + 2))) (nI_add i 2) ?_
  refine va_sld hx hb hX hbl hbA hS (lw_in hi hL9 rfl) dL_law_1943 ?_
  refine k_foldi (y := p1) hp1 ?_
  refine lv_aload_n hx hb dL_law_1944 rfl (lv_at hl 3 rfl) ?_
  refine lwHelp (n := 4) (wr := (wM G bb T)) (wd := (wH G a o n sv S)) (as := [.ref (a 0), .int p0, .int p1, .ref o]) (rest := []) C (k_minusMonths l hl9 G a o n sv S p0 p1) bw614 bw56 (by decide +kernel) rfl bw612 bw613 hN (hE.S hS hAB) hP hD hS hA hAB hl.1 dL_law_1945 ⟨(Nat.le_of_ble_eq_true rfl), (Nat.le_of_ble_eq_true rfl)⟩ rfl (Nat.le_of_ble_eq_true rfl) hf1 (fun r9 wd9 H locs hp9 hP hD hS => ?_)
  obtain ⟨c9, n9, sv9, S9, rfl, rfl, h9⟩ := hp9
  refine W.eq (g2 := F0 m 1948 ls [.int c9]) rfl ?_
  refine lv_istore (lv' := [(5, .int c9), (0, .ref b9), (1, .ref (a 0)), (2, .ref (bb 0)), (3, .ref o), (4, .int (nI i))]) hx hb dL_law_1948 hl (Nat.le_of_ble_eq_true rfl) rfl (fun ls hl => ?_)
  refine lv_aload_n hx hb dL_law_1950 rfl (lv_at hl 3 rfl) ?_
  refine lv_aload_n hx hb dL_law_1951 rfl (lv_at hl 1 rfl) ?_
  refine lv_iload hx hb dL_law_1952 (lv_at hl 5 rfl) ?_
  refine lv_iconst (v := (1 : Int32)) hx hb dL_law_1954 qi_1 ?_
  refine lv_iadd hx hb dL_law_1955 ?_
  refine k_foldi (y := (nI (i + 1))) (nI_add i 1) ?_
  refine va_sld hx hb hX hbl hbA hS (lw_in hi hL9 rfl) dL_law_1956 ?_
  refine k_foldi (y := p0) hp0 ?_
  refine lv_aload_n hx hb dL_law_1957 rfl (lv_at hl 1 rfl) ?_
  refine lv_iload hx hb dL_law_1958 (lv_at hl 5 rfl) ?_
  refine lv_iconst (v := (2 : Int32)) hx hb dL_law_1960 qi_2 ?_
  refine lv_iadd hx hb dL_law_1961 ?_
  refine k_foldi (y := (nI (i + 2))) (nI_add i 2) ?_
  refine va_sld hx hb hX hbl hbA hS (lw_in hi hL9 rfl) dL_law_1962 ?_
  refine k_foldi (y := p1) hp1 ?_
  refine lwWR (MC := 170) (MS := 4200) (st1 := [.int ((gX2_minusMonths T p0 p1).1)]) (wr := (wH G a o n9 sv9 S9)) (wd := (wM G bb T)) (as := [.int p0, .int p1]) (rest := []) (cl := RX2) (Nat.le_of_ble_eq_true rfl) (Nat.le_of_ble_eq_true rfl) C (c_X2_minusMonths l G bb T p0 p1 (Rel.mo hR)) F_X2_minusMonths rfl bw1406 bw1407 bw1408 (hE.S hS hAB) hP hD hS hA hAB (rv4 hE.K (P_tl (wr := (wH G a o n9 sv9 S9)) hP) (q0 := 0) rfl) hl.1 dL_law_1963 ⟨(Nat.le_of_ble_eq_true rfl), (Nat.le_of_ble_eq_true rfl)⟩ rfl (Nat.le_of_ble_eq_true rfl) hf2 rfl (fun H locs hP hD hS => ?_)
  have hc9 := cmp_minusMonths hR h9
  refine lv_istore (lv' := [(6, .int ((gX2_minusMonths T p0 p1).1)), (5, .int c9), (0, .ref b9), (1, .ref (a 0)), (2, .ref (bb 0)), (3, .ref o), (4, .int (nI i))]) hx hb dL_law_1966 hl (Nat.le_of_ble_eq_true rfl) rfl (fun ls hl => ?_)
  refine lv_aload_n hx hb dL_law_1968 rfl (lv_at hl 4 rfl) ?_
  refine rcVf (st1 := [.int (fX2_thrown ((gX2_minusMonths T p0 p1).2))]) (as := []) (rest := []) (cl := RX2) C (c_X2_thrown l G bb ((gX2_minusMonths T p0 p1).2)) F_X2_thrown rfl bw1200 bw1201 (hw _ bw1202) (hE.S hS hAB) (P_hd hP) (rv4 hE.K (P_hd hP) (q0 := 0) rfl) hl.1 dL_law_1969 ⟨Nat.le_of_ble_eq_true rfl, Nat.le_of_ble_eq_true rfl⟩ rfl (Nat.le_of_ble_eq_true rfl) hf3 rfl ?_
  refine k_foldi (y := c9) hc9.1 ?_
  refine lv_iload hx hb dL_law_1972 (lv_at hl 1 rfl) ?_
  refine lv_icmp_eq (tgt := 1979) hx hb dL_law_1974 (by decide) (fun _ => ?_) (fun c_x => absurd rfl c_x)
  refine lv_iload hx hb dL_law_1979 (lv_at hl 1 rfl) ?_
  refine lv_if_ne (tgt := 1997) hx hb dL_law_1981 (by decide) (fun c_1 => ?_) (fun c_1 => ?_)
  · refine lv_goto (tgt := 3946) hx hb dL_law_1997 (by decide) ?_
    refine W.widen (k := cells + 200) (n := slots + 5000) (by first | exact Nat.le_of_eq (Nat.add_assoc _ _ _) | omega) (by first | exact Nat.le_of_eq (Nat.add_assoc _ _ _) | omega) ?_
    exact kk n9 sv9 S9 ((gX2_minusMonths T p0 p1).2) _ _ ls (rel_minusMonths hR h9) hP hD hS (lv_sub hl [2, 3, 4, 5, 6] rfl)
  · refine lv_aload_n hx hb dL_law_1984 rfl (lv_at hl 5 rfl) ?_
    refine va_getN (D := gD G) (cl := vwCl) (tys := gT G) (ci := 3) (v := .long n9) (C := RX1) (T := TX1) (N := 2) hx hb hw inB_X1 hown hE.K hP 5 rfl rfl 0 (by decide) (va_Nw.use rfl hN.2.1) (fun _ h9 => h9) rfl dL_law_1985 ?_
    refine lv_iload hx hb dL_law_1988 (lv_at hl 0 rfl) ?_
    refine lv_i2l (v := (((gX2_minusMonths T p0 p1).1).toInt64)) hx hb dL_law_1990 (by first | rfl | decide) ?_
    refine W.lcmp hx hb dL_law_1991 ?_
    refine lv_if_eq (tgt := 1997) hx hb dL_law_1992 (by decide) (fun _ => ?_) (fun c_x => absurd (lgc_eq.mpr (by rw [hc9.2 c_1])) c_x)
    refine lv_goto (tgt := 3946) hx hb dL_law_1997 (by decide) ?_
    refine W.widen (k := cells + 200) (n := slots + 5000) (by first | exact Nat.le_of_eq (Nat.add_assoc _ _ _) | omega) (by first | exact Nat.le_of_eq (Nat.add_assoc _ _ _) | omega) ?_
    exact kk n9 sv9 S9 ((gX2_minusMonths T p0 p1).2) _ _ ls (rel_minusMonths hR h9) hP hD hS (lv_sub hl [2, 3, 4, 5, 6] rfl)

set_option maxRecDepth 100000 in
set_option maxHeartbeats 4000000 in
theorem case_minusWeeks {p : Program} {l : Launch} {e : Env} {s : State} {m : MethodId} {below : List Frame} {meth : Method} {c : Code} {Q : State → Prop} {G : GT} {b9 L9 : Nat} {xs : Nat → Int32} {a bb : Nat → Nat} {o : Nat} (Z : LW p l s m meth c G b9 L9 xs) {i cells slots : Nat} (hi : i + 6 ≤ L9) (hf : cells + 200 ≤ room_1.cells ∧ slots + 5000 ≤ room_1.slots) {n : Int64} {sv : Value} {S : SX} {T : SM} (hR : Rel S T) {H : Heap} {locs : List Loc} {ls : Array Slot} (hP : va_P (gD G) vwCl (wM G bb T ++ wH G a o n sv S) H) (hD : va_D (fun q : Nat => s.heap.size ≤ q) (wM G bb T ++ wH G a o n sv S)) (hS : va_S (fun q : Nat => s.heap.size ≤ q) s.heap H locs) (hl : lv_has ls 7 [(0, .ref b9), (1, .ref (a 0)), (2, .ref (bb 0)), (3, .ref o), (4, .int (nI i))]) (kk : ∀ (n : Int64) (sv : Value) (S : SX) (T : SM) (H : Heap) (locs : List Loc) (ls : Array Slot), Rel S T → va_P (gD G) vwCl (wM G bb T ++ wH G a o n sv S) H → va_D (fun q : Nat => s.heap.size ≤ q) (wM G bb T ++ wH G a o n sv S) → va_S (fun q : Nat => s.heap.size ≤ q) s.heap H locs → lv_has ls 7 [(0, .ref b9), (1, .ref (a 0)), (2, .ref (bb 0)), (3, .ref o), (4, .int (nI i))] → W p l e room_1 s m #[Value.ref b9] below meth c H locs (cells + 200) (slots + 5000) Q (F0 m 3946 ls [])) : W p l e room_1 s m #[Value.ref b9] below meth c H locs (cells) (slots) Q (F0 m 2000 ls []) := by
  obtain ⟨C, hE, hN, hX, hbl, hl9, hL9, hA, hAB, hbA⟩ := Z
  have hx := C.1
  have hb := C.2.1
  have hml := C.2.2.1
  have hown := C.2.2.2.1
  have hw := C.2.2.2.2
  obtain ⟨hf0, hf1, hf2⟩ := lw_hf hf
  have hf3 := hf2
  obtain ⟨p0, hp0⟩ : ∃ y : Int32, xs (nI (i + 1)).toNatClampNeg = y := ⟨_, rfl⟩
  obtain ⟨p1, hp1⟩ : ∃ y : Int32, xs (nI (i + 2)).toNatClampNeg = y := ⟨_, rfl⟩
  refine lv_aload_n hx hb dL_law_2000 rfl (lv_at hl 1 rfl) ?_
  refine lv_aload_n hx hb dL_law_2001 rfl (lv_at hl 0 rfl) ?_
  refine lv_iload hx hb dL_law_2002 (lv_at hl 4 rfl) ?_
  refine lv_iconst (v := (1 : Int32)) hx hb dL_law_2004 qi_1 ?_
  refine lv_iadd hx hb dL_law_2005 ?_
  refine k_foldi (y := (nI (i + 1))) (nI_add i 1) ?_
  refine va_sld hx hb hX hbl hbA hS (lw_in hi hL9 rfl) dL_law_2006 ?_
  refine k_foldi (y := p0) hp0 ?_
  refine lv_aload_n hx hb dL_law_2007 rfl (lv_at hl 0 rfl) ?_
  refine lv_iload hx hb dL_law_2008 (lv_at hl 4 rfl) ?_
  refine lv_iconst (v := (2 : Int32)) hx hb dL_law_2010 qi_2 ?_
  refine lv_iadd hx hb dL_law_2011 ?_
  refine k_foldi (y := (nI (i + 2))) (nI_add i 2) ?_
  refine va_sld hx hb hX hbl hbA hS (lw_in hi hL9 rfl) dL_law_2012 ?_
  refine k_foldi (y := p1) hp1 ?_
  refine lv_aload_n hx hb dL_law_2013 rfl (lv_at hl 3 rfl) ?_
  refine lwHelp (n := 4) (wr := (wM G bb T)) (wd := (wH G a o n sv S)) (as := [.ref (a 0), .int p0, .int p1, .ref o]) (rest := []) C (k_minusWeeks l hl9 G a o n sv S p0 p1) bw621 bw56 (by decide +kernel) rfl bw619 bw620 hN (hE.S hS hAB) hP hD hS hA hAB hl.1 dL_law_2014 ⟨(Nat.le_of_ble_eq_true rfl), (Nat.le_of_ble_eq_true rfl)⟩ rfl (Nat.le_of_ble_eq_true rfl) hf1 (fun r9 wd9 H locs hp9 hP hD hS => ?_)
  obtain ⟨c9, n9, sv9, S9, rfl, rfl, h9⟩ := hp9
  refine W.eq (g2 := F0 m 2017 ls [.int c9]) rfl ?_
  refine lv_istore (lv' := [(5, .int c9), (0, .ref b9), (1, .ref (a 0)), (2, .ref (bb 0)), (3, .ref o), (4, .int (nI i))]) hx hb dL_law_2017 hl (Nat.le_of_ble_eq_true rfl) rfl (fun ls hl => ?_)
  refine lv_aload_n hx hb dL_law_2019 rfl (lv_at hl 3 rfl) ?_
  refine lv_aload_n hx hb dL_law_2020 rfl (lv_at hl 1 rfl) ?_
  refine lv_iload hx hb dL_law_2021 (lv_at hl 5 rfl) ?_
  refine lv_iconst (v := (1 : Int32)) hx hb dL_law_2023 qi_1 ?_
  refine lv_iadd hx hb dL_law_2024 ?_
  refine k_foldi (y := (nI (i + 1))) (nI_add i 1) ?_
  refine va_sld hx hb hX hbl hbA hS (lw_in hi hL9 rfl) dL_law_2025 ?_
  refine k_foldi (y := p0) hp0 ?_
  refine lv_aload_n hx hb dL_law_2026 rfl (lv_at hl 1 rfl) ?_
  refine lv_iload hx hb dL_law_2027 (lv_at hl 5 rfl) ?_
  refine lv_iconst (v := (2 : Int32)) hx hb dL_law_2029 qi_2 ?_
  refine lv_iadd hx hb dL_law_2030 ?_
  refine k_foldi (y := (nI (i + 2))) (nI_add i 2) ?_
  refine va_sld hx hb hX hbl hbA hS (lw_in hi hL9 rfl) dL_law_2031 ?_
  refine k_foldi (y := p1) hp1 ?_
  refine lwWR (MC := 170) (MS := 4200) (st1 := [.int ((gX2_minusWeeks T p0 p1).1)]) (wr := (wH G a o n9 sv9 S9)) (wd := (wM G bb T)) (as := [.int p0, .int p1]) (rest := []) (cl := RX2) (Nat.le_of_ble_eq_true rfl) (Nat.le_of_ble_eq_true rfl) C (c_X2_minusWeeks l G bb T p0 p1 (Rel.mo hR)) F_X2_minusWeeks rfl bw1410 bw1411 bw1412 (hE.S hS hAB) hP hD hS hA hAB (rv4 hE.K (P_tl (wr := (wH G a o n9 sv9 S9)) hP) (q0 := 0) rfl) hl.1 dL_law_2032 ⟨(Nat.le_of_ble_eq_true rfl), (Nat.le_of_ble_eq_true rfl)⟩ rfl (Nat.le_of_ble_eq_true rfl) hf2 rfl (fun H locs hP hD hS => ?_)
  have hc9 := cmp_minusWeeks hR h9
  refine lv_istore (lv' := [(6, .int ((gX2_minusWeeks T p0 p1).1)), (5, .int c9), (0, .ref b9), (1, .ref (a 0)), (2, .ref (bb 0)), (3, .ref o), (4, .int (nI i))]) hx hb dL_law_2035 hl (Nat.le_of_ble_eq_true rfl) rfl (fun ls hl => ?_)
  refine lv_aload_n hx hb dL_law_2037 rfl (lv_at hl 4 rfl) ?_
  refine rcVf (st1 := [.int (fX2_thrown ((gX2_minusWeeks T p0 p1).2))]) (as := []) (rest := []) (cl := RX2) C (c_X2_thrown l G bb ((gX2_minusWeeks T p0 p1).2)) F_X2_thrown rfl bw1200 bw1201 (hw _ bw1202) (hE.S hS hAB) (P_hd hP) (rv4 hE.K (P_hd hP) (q0 := 0) rfl) hl.1 dL_law_2038 ⟨Nat.le_of_ble_eq_true rfl, Nat.le_of_ble_eq_true rfl⟩ rfl (Nat.le_of_ble_eq_true rfl) hf3 rfl ?_
  refine k_foldi (y := c9) hc9.1 ?_
  refine lv_iload hx hb dL_law_2041 (lv_at hl 1 rfl) ?_
  refine lv_icmp_eq (tgt := 2048) hx hb dL_law_2043 (by decide) (fun _ => ?_) (fun c_x => absurd rfl c_x)
  refine lv_iload hx hb dL_law_2048 (lv_at hl 1 rfl) ?_
  refine lv_if_ne (tgt := 2066) hx hb dL_law_2050 (by decide) (fun c_1 => ?_) (fun c_1 => ?_)
  · refine lv_goto (tgt := 3946) hx hb dL_law_2066 (by decide) ?_
    refine W.widen (k := cells + 200) (n := slots + 5000) (by first | exact Nat.le_of_eq (Nat.add_assoc _ _ _) | omega) (by first | exact Nat.le_of_eq (Nat.add_assoc _ _ _) | omega) ?_
    exact kk n9 sv9 S9 ((gX2_minusWeeks T p0 p1).2) _ _ ls (rel_minusWeeks hR h9) hP hD hS (lv_sub hl [2, 3, 4, 5, 6] rfl)
  · refine lv_aload_n hx hb dL_law_2053 rfl (lv_at hl 5 rfl) ?_
    refine va_getN (D := gD G) (cl := vwCl) (tys := gT G) (ci := 3) (v := .long n9) (C := RX1) (T := TX1) (N := 2) hx hb hw inB_X1 hown hE.K hP 5 rfl rfl 0 (by decide) (va_Nw.use rfl hN.2.1) (fun _ h9 => h9) rfl dL_law_2054 ?_
    refine lv_iload hx hb dL_law_2057 (lv_at hl 0 rfl) ?_
    refine lv_i2l (v := (((gX2_minusWeeks T p0 p1).1).toInt64)) hx hb dL_law_2059 (by first | rfl | decide) ?_
    refine W.lcmp hx hb dL_law_2060 ?_
    refine lv_if_eq (tgt := 2066) hx hb dL_law_2061 (by decide) (fun _ => ?_) (fun c_x => absurd (lgc_eq.mpr (by rw [hc9.2 c_1])) c_x)
    refine lv_goto (tgt := 3946) hx hb dL_law_2066 (by decide) ?_
    refine W.widen (k := cells + 200) (n := slots + 5000) (by first | exact Nat.le_of_eq (Nat.add_assoc _ _ _) | omega) (by first | exact Nat.le_of_eq (Nat.add_assoc _ _ _) | omega) ?_
    exact kk n9 sv9 S9 ((gX2_minusWeeks T p0 p1).2) _ _ ls (rel_minusWeeks hR h9) hP hD hS (lv_sub hl [2, 3, 4, 5, 6] rfl)

set_option maxRecDepth 100000 in
set_option maxHeartbeats 4000000 in
theorem case_minusDays {p : Program} {l : Launch} {e : Env} {s : State} {m : MethodId} {below : List Frame} {meth : Method} {c : Code} {Q : State → Prop} {G : GT} {b9 L9 : Nat} {xs : Nat → Int32} {a bb : Nat → Nat} {o : Nat} (Z : LW p l s m meth c G b9 L9 xs) {i cells slots : Nat} (hi : i + 6 ≤ L9) (hf : cells + 200 ≤ room_1.cells ∧ slots + 5000 ≤ room_1.slots) {n : Int64} {sv : Value} {S : SX} {T : SM} (hR : Rel S T) {H : Heap} {locs : List Loc} {ls : Array Slot} (hP : va_P (gD G) vwCl (wM G bb T ++ wH G a o n sv S) H) (hD : va_D (fun q : Nat => s.heap.size ≤ q) (wM G bb T ++ wH G a o n sv S)) (hS : va_S (fun q : Nat => s.heap.size ≤ q) s.heap H locs) (hl : lv_has ls 7 [(0, .ref b9), (1, .ref (a 0)), (2, .ref (bb 0)), (3, .ref o), (4, .int (nI i))]) (kk : ∀ (n : Int64) (sv : Value) (S : SX) (T : SM) (H : Heap) (locs : List Loc) (ls : Array Slot), Rel S T → va_P (gD G) vwCl (wM G bb T ++ wH G a o n sv S) H → va_D (fun q : Nat => s.heap.size ≤ q) (wM G bb T ++ wH G a o n sv S) → va_S (fun q : Nat => s.heap.size ≤ q) s.heap H locs → lv_has ls 7 [(0, .ref b9), (1, .ref (a 0)), (2, .ref (bb 0)), (3, .ref o), (4, .int (nI i))] → W p l e room_1 s m #[Value.ref b9] below meth c H locs (cells + 200) (slots + 5000) Q (F0 m 3946 ls [])) : W p l e room_1 s m #[Value.ref b9] below meth c H locs (cells) (slots) Q (F0 m 2069 ls []) := by
  obtain ⟨C, hE, hN, hX, hbl, hl9, hL9, hA, hAB, hbA⟩ := Z
  have hx := C.1
  have hb := C.2.1
  have hml := C.2.2.1
  have hown := C.2.2.2.1
  have hw := C.2.2.2.2
  obtain ⟨hf0, hf1, hf2⟩ := lw_hf hf
  have hf3 := hf2
  obtain ⟨p0, hp0⟩ : ∃ y : Int32, xs (nI (i + 1)).toNatClampNeg = y := ⟨_, rfl⟩
  obtain ⟨p1, hp1⟩ : ∃ y : Int32, xs (nI (i + 2)).toNatClampNeg = y := ⟨_, rfl⟩
  refine lv_aload_n hx hb dL_law_2069 rfl (lv_at hl 1 rfl) ?_
  refine lv_aload_n hx hb dL_law_2070 rfl (lv_at hl 0 rfl) ?_
  refine lv_iload hx hb dL_law_2071 (lv_at hl 4 rfl) ?_
  refine lv_iconst (v := (1 : Int32)) hx hb dL_law_2073 qi_1 ?_
  refine lv_iadd hx hb dL_law_2074 ?_
  refine k_foldi (y := (nI (i + 1))) (nI_add i 1) ?_
  refine va_sld hx hb hX hbl hbA hS (lw_in hi hL9 rfl) dL_law_2075 ?_
  refine k_foldi (y := p0) hp0 ?_
  refine lv_aload_n hx hb dL_law_2076 rfl (lv_at hl 0 rfl) ?_
  refine lv_iload hx hb dL_law_2077 (lv_at hl 4 rfl) ?_
  refine lv_iconst (v := (2 : Int32)) hx hb dL_law_2079 qi_2 ?_
  refine lv_iadd hx hb dL_law_2080 ?_
  refine k_foldi (y := (nI (i + 2))) (nI_add i 2) ?_
  refine va_sld hx hb hX hbl hbA hS (lw_in hi hL9 rfl) dL_law_2081 ?_
  refine k_foldi (y := p1) hp1 ?_
  refine lv_aload_n hx hb dL_law_2082 rfl (lv_at hl 3 rfl) ?_
  refine lwHelp (n := 4) (wr := (wM G bb T)) (wd := (wH G a o n sv S)) (as := [.ref (a 0), .int p0, .int p1, .ref o]) (rest := []) C (k_minusDays l hl9 G a o n sv S p0 p1) bw628 bw56 (by decide +kernel) rfl bw626 bw627 hN (hE.S hS hAB) hP hD hS hA hAB hl.1 dL_law_2083 ⟨(Nat.le_of_ble_eq_true rfl), (Nat.le_of_ble_eq_true rfl)⟩ rfl (Nat.le_of_ble_eq_true rfl) hf1 (fun r9 wd9 H locs hp9 hP hD hS => ?_)
  obtain ⟨c9, n9, sv9, S9, rfl, rfl, h9⟩ := hp9
  refine W.eq (g2 := F0 m 2086 ls [.int c9]) rfl ?_
  refine lv_istore (lv' := [(5, .int c9), (0, .ref b9), (1, .ref (a 0)), (2, .ref (bb 0)), (3, .ref o), (4, .int (nI i))]) hx hb dL_law_2086 hl (Nat.le_of_ble_eq_true rfl) rfl (fun ls hl => ?_)
  refine lv_aload_n hx hb dL_law_2088 rfl (lv_at hl 3 rfl) ?_
  refine lv_aload_n hx hb dL_law_2089 rfl (lv_at hl 1 rfl) ?_
  refine lv_iload hx hb dL_law_2090 (lv_at hl 5 rfl) ?_
  refine lv_iconst (v := (1 : Int32)) hx hb dL_law_2092 qi_1 ?_
  refine lv_iadd hx hb dL_law_2093 ?_
  refine k_foldi (y := (nI (i + 1))) (nI_add i 1) ?_
  refine va_sld hx hb hX hbl hbA hS (lw_in hi hL9 rfl) dL_law_2094 ?_
  refine k_foldi (y := p0) hp0 ?_
  refine lv_aload_n hx hb dL_law_2095 rfl (lv_at hl 1 rfl) ?_
  refine lv_iload hx hb dL_law_2096 (lv_at hl 5 rfl) ?_
  refine lv_iconst (v := (2 : Int32)) hx hb dL_law_2098 qi_2 ?_
  refine lv_iadd hx hb dL_law_2099 ?_
  refine k_foldi (y := (nI (i + 2))) (nI_add i 2) ?_
  refine va_sld hx hb hX hbl hbA hS (lw_in hi hL9 rfl) dL_law_2100 ?_
  refine k_foldi (y := p1) hp1 ?_
  refine lwWR (MC := 170) (MS := 4200) (st1 := [.int ((gX2_minusDays T p0 p1).1)]) (wr := (wH G a o n9 sv9 S9)) (wd := (wM G bb T)) (as := [.int p0, .int p1]) (rest := []) (cl := RX2) (Nat.le_of_ble_eq_true rfl) (Nat.le_of_ble_eq_true rfl) C (c_X2_minusDays l G bb T p0 p1 (Rel.mo hR)) F_X2_minusDays rfl bw1415 bw1416 bw1417 (hE.S hS hAB) hP hD hS hA hAB (rv4 hE.K (P_tl (wr := (wH G a o n9 sv9 S9)) hP) (q0 := 0) rfl) hl.1 dL_law_2101 ⟨(Nat.le_of_ble_eq_true rfl), (Nat.le_of_ble_eq_true rfl)⟩ rfl (Nat.le_of_ble_eq_true rfl) hf2 rfl (fun H locs hP hD hS => ?_)
  have hc9 := cmp_minusDays hR h9
  refine lv_istore (lv' := [(6, .int ((gX2_minusDays T p0 p1).1)), (5, .int c9), (0, .ref b9), (1, .ref (a 0)), (2, .ref (bb 0)), (3, .ref o), (4, .int (nI i))]) hx hb dL_law_2104 hl (Nat.le_of_ble_eq_true rfl) rfl (fun ls hl => ?_)
  refine lv_aload_n hx hb dL_law_2106 rfl (lv_at hl 4 rfl) ?_
  refine rcVf (st1 := [.int (fX2_thrown ((gX2_minusDays T p0 p1).2))]) (as := []) (rest := []) (cl := RX2) C (c_X2_thrown l G bb ((gX2_minusDays T p0 p1).2)) F_X2_thrown rfl bw1200 bw1201 (hw _ bw1202) (hE.S hS hAB) (P_hd hP) (rv4 hE.K (P_hd hP) (q0 := 0) rfl) hl.1 dL_law_2107 ⟨Nat.le_of_ble_eq_true rfl, Nat.le_of_ble_eq_true rfl⟩ rfl (Nat.le_of_ble_eq_true rfl) hf3 rfl ?_
  refine k_foldi (y := c9) hc9.1 ?_
  refine lv_iload hx hb dL_law_2110 (lv_at hl 1 rfl) ?_
  refine lv_icmp_eq (tgt := 2117) hx hb dL_law_2112 (by decide) (fun _ => ?_) (fun c_x => absurd rfl c_x)
  refine lv_iload hx hb dL_law_2117 (lv_at hl 1 rfl) ?_
  refine lv_if_ne (tgt := 2135) hx hb dL_law_2119 (by decide) (fun c_1 => ?_) (fun c_1 => ?_)
  · refine lv_goto (tgt := 3946) hx hb dL_law_2135 (by decide) ?_
    refine W.widen (k := cells + 200) (n := slots + 5000) (by first | exact Nat.le_of_eq (Nat.add_assoc _ _ _) | omega) (by first | exact Nat.le_of_eq (Nat.add_assoc _ _ _) | omega) ?_
    exact kk n9 sv9 S9 ((gX2_minusDays T p0 p1).2) _ _ ls (rel_minusDays hR h9) hP hD hS (lv_sub hl [2, 3, 4, 5, 6] rfl)
  · refine lv_aload_n hx hb dL_law_2122 rfl (lv_at hl 5 rfl) ?_
    refine va_getN (D := gD G) (cl := vwCl) (tys := gT G) (ci := 3) (v := .long n9) (C := RX1) (T := TX1) (N := 2) hx hb hw inB_X1 hown hE.K hP 5 rfl rfl 0 (by decide) (va_Nw.use rfl hN.2.1) (fun _ h9 => h9) rfl dL_law_2123 ?_
    refine lv_iload hx hb dL_law_2126 (lv_at hl 0 rfl) ?_
    refine lv_i2l (v := (((gX2_minusDays T p0 p1).1).toInt64)) hx hb dL_law_2128 (by first | rfl | decide) ?_
    refine W.lcmp hx hb dL_law_2129 ?_
    refine lv_if_eq (tgt := 2135) hx hb dL_law_2130 (by decide) (fun _ => ?_) (fun c_x => absurd (lgc_eq.mpr (by rw [hc9.2 c_1])) c_x)
    refine lv_goto (tgt := 3946) hx hb dL_law_2135 (by decide) ?_
    refine W.widen (k := cells + 200) (n := slots + 5000) (by first | exact Nat.le_of_eq (Nat.add_assoc _ _ _) | omega) (by first | exact Nat.le_of_eq (Nat.add_assoc _ _ _) | omega) ?_
    exact kk n9 sv9 S9 ((gX2_minusDays T p0 p1).2) _ _ ls (rel_minusDays hR h9) hP hD hS (lv_sub hl [2, 3, 4, 5, 6] rfl)

set_option maxRecDepth 100000 in
set_option maxHeartbeats 4000000 in
theorem case_minusHours {p : Program} {l : Launch} {e : Env} {s : State} {m : MethodId} {below : List Frame} {meth : Method} {c : Code} {Q : State → Prop} {G : GT} {b9 L9 : Nat} {xs : Nat → Int32} {a bb : Nat → Nat} {o : Nat} (Z : LW p l s m meth c G b9 L9 xs) {i cells slots : Nat} (hi : i + 6 ≤ L9) (hf : cells + 200 ≤ room_1.cells ∧ slots + 5000 ≤ room_1.slots) {n : Int64} {sv : Value} {S : SX} {T : SM} (hR : Rel S T) {H : Heap} {locs : List Loc} {ls : Array Slot} (hP : va_P (gD G) vwCl (wM G bb T ++ wH G a o n sv S) H) (hD : va_D (fun q : Nat => s.heap.size ≤ q) (wM G bb T ++ wH G a o n sv S)) (hS : va_S (fun q : Nat => s.heap.size ≤ q) s.heap H locs) (hl : lv_has ls 7 [(0, .ref b9), (1, .ref (a 0)), (2, .ref (bb 0)), (3, .ref o), (4, .int (nI i))]) (kk : ∀ (n : Int64) (sv : Value) (S : SX) (T : SM) (H : Heap) (locs : List Loc) (ls : Array Slot), Rel S T → va_P (gD G) vwCl (wM G bb T ++ wH G a o n sv S) H → va_D (fun q : Nat => s.heap.size ≤ q) (wM G bb T ++ wH G a o n sv S) → va_S (fun q : Nat => s.heap.size ≤ q) s.heap H locs → lv_has ls 7 [(0, .ref b9), (1, .ref (a 0)), (2, .ref (bb 0)), (3, .ref o), (4, .int (nI i))] → W p l e room_1 s m #[Value.ref b9] below meth c H locs (cells + 200) (slots + 5000) Q (F0 m 3946 ls [])) : W p l e room_1 s m #[Value.ref b9] below meth c H locs (cells) (slots) Q (F0 m 2138 ls []) := by
  obtain ⟨C, hE, hN, hX, hbl, hl9, hL9, hA, hAB, hbA⟩ := Z
  have hx := C.1
  have hb := C.2.1
  have hml := C.2.2.1
  have hown := C.2.2.2.1
  have hw := C.2.2.2.2
  obtain ⟨hf0, hf1, hf2⟩ := lw_hf hf
  have hf3 := hf2
  obtain ⟨p0, hp0⟩ : ∃ y : Int32, xs (nI (i + 1)).toNatClampNeg = y := ⟨_, rfl⟩
  obtain ⟨p1, hp1⟩ : ∃ y : Int32, xs (nI (i + 2)).toNatClampNeg = y := ⟨_, rfl⟩
  refine lv_aload_n hx hb dL_law_2138 rfl (lv_at hl 1 rfl) ?_
  refine lv_aload_n hx hb dL_law_2139 rfl (lv_at hl 0 rfl) ?_
  refine lv_iload hx hb dL_law_2140 (lv_at hl 4 rfl) ?_
  refine lv_iconst (v := (1 : Int32)) hx hb dL_law_2142 qi_1 ?_
  refine lv_iadd hx hb dL_law_2143 ?_
  refine k_foldi (y := (nI (i + 1))) (nI_add i 1) ?_
  refine va_sld hx hb hX hbl hbA hS (lw_in hi hL9 rfl) dL_law_2144 ?_
  refine k_foldi (y := p0) hp0 ?_
  refine lv_aload_n hx hb dL_law_2145 rfl (lv_at hl 0 rfl) ?_
  refine lv_iload hx hb dL_law_2146 (lv_at hl 4 rfl) ?_
  refine lv_iconst (v := (2 : Int32)) hx hb dL_law_2148 qi_2 ?_
  refine lv_iadd hx hb dL_law_2149 ?_
  refine k_foldi (y := (nI (i + 2))) (nI_add i 2) ?_
  refine va_sld hx hb hX hbl hbA hS (lw_in hi hL9 rfl) dL_law_2150 ?_
  refine k_foldi (y := p1) hp1 ?_
  refine lv_aload_n hx hb dL_law_2151 rfl (lv_at hl 3 rfl) ?_
  refine lwHelp (n := 4) (wr := (wM G bb T)) (wd := (wH G a o n sv S)) (as := [.ref (a 0), .int p0, .int p1, .ref o]) (rest := []) C (k_minusHours l hl9 G a o n sv S p0 p1) bw635 bw56 (by decide +kernel) rfl bw633 bw634 hN (hE.S hS hAB) hP hD hS hA hAB hl.1 dL_law_2152 ⟨(Nat.le_of_ble_eq_true rfl), (Nat.le_of_ble_eq_true rfl)⟩ rfl (Nat.le_of_ble_eq_true rfl) hf1 (fun r9 wd9 H locs hp9 hP hD hS => ?_)
  obtain ⟨c9, n9, sv9, S9, rfl, rfl, h9⟩ := hp9
  refine W.eq (g2 := F0 m 2155 ls [.int c9]) rfl ?_
  refine lv_istore (lv' := [(5, .int c9), (0, .ref b9), (1, .ref (a 0)), (2, .ref (bb 0)), (3, .ref o), (4, .int (nI i))]) hx hb dL_law_2155 hl (Nat.le_of_ble_eq_true rfl) rfl (fun ls hl => ?_)
  refine lv_aload_n hx hb dL_law_2157 rfl (lv_at hl 3 rfl) ?_
  refine lv_aload_n hx hb dL_law_2158 rfl (lv_at hl 1 rfl) ?_
  refine lv_iload hx hb dL_law_2159 (lv_at hl 5 rfl) ?_
  refine lv_iconst (v := (1 : Int32)) hx hb dL_law_2161 qi_1 ?_
  refine lv_iadd hx hb dL_law_2162 ?_
  refine k_foldi (y := (nI (i + 1))) (nI_add i 1) ?_
  refine va_sld hx hb hX hbl hbA hS (lw_in hi hL9 rfl) dL_law_2163 ?_
  refine k_foldi (y := p0) hp0 ?_
  refine lv_aload_n hx hb dL_law_2164 rfl (lv_at hl 1 rfl) ?_
  refine lv_iload hx hb dL_law_2165 (lv_at hl 5 rfl) ?_
  refine lv_iconst (v := (2 : Int32)) hx hb dL_law_2167 qi_2 ?_
  refine lv_iadd hx hb dL_law_2168 ?_
  refine k_foldi (y := (nI (i + 2))) (nI_add i 2) ?_
  refine va_sld hx hb hX hbl hbA hS (lw_in hi hL9 rfl) dL_law_2169 ?_
  refine k_foldi (y := p1) hp1 ?_
  refine lwWR (MC := 170) (MS := 4200) (st1 := [.int ((gX2_minusHours T p0 p1).1)]) (wr := (wH G a o n9 sv9 S9)) (wd := (wM G bb T)) (as := [.int p0, .int p1]) (rest := []) (cl := RX2) (Nat.le_of_ble_eq_true rfl) (Nat.le_of_ble_eq_true rfl) C (c_X2_minusHours l G bb T p0 p1 (Rel.mo hR)) F_X2_minusHours rfl bw1419 bw1420 bw1421 (hE.S hS hAB) hP hD hS hA hAB (rv4 hE.K (P_tl (wr := (wH G a o n9 sv9 S9)) hP) (q0 := 0) rfl) hl.1 dL_law_2170 ⟨(Nat.le_of_ble_eq_true rfl), (Nat.le_of_ble_eq_true rfl)⟩ rfl (Nat.le_of_ble_eq_true rfl) hf2 rfl (fun H locs hP hD hS => ?_)
  have hc9 := cmp_minusHours hR h9
  refine lv_istore (lv' := [(6, .int ((gX2_minusHours T p0 p1).1)), (5, .int c9), (0, .ref b9), (1, .ref (a 0)), (2, .ref (bb 0)), (3, .ref o), (4, .int (nI i))]) hx hb dL_law_2173 hl (Nat.le_of_ble_eq_true rfl) rfl (fun ls hl => ?_)
  refine lv_aload_n hx hb dL_law_2175 rfl (lv_at hl 4 rfl) ?_
  refine rcVf (st1 := [.int (fX2_thrown ((gX2_minusHours T p0 p1).2))]) (as := []) (rest := []) (cl := RX2) C (c_X2_thrown l G bb ((gX2_minusHours T p0 p1).2)) F_X2_thrown rfl bw1200 bw1201 (hw _ bw1202) (hE.S hS hAB) (P_hd hP) (rv4 hE.K (P_hd hP) (q0 := 0) rfl) hl.1 dL_law_2176 ⟨Nat.le_of_ble_eq_true rfl, Nat.le_of_ble_eq_true rfl⟩ rfl (Nat.le_of_ble_eq_true rfl) hf3 rfl ?_
  refine k_foldi (y := c9) hc9.1 ?_
  refine lv_iload hx hb dL_law_2179 (lv_at hl 1 rfl) ?_
  refine lv_icmp_eq (tgt := 2186) hx hb dL_law_2181 (by decide) (fun _ => ?_) (fun c_x => absurd rfl c_x)
  refine lv_iload hx hb dL_law_2186 (lv_at hl 1 rfl) ?_
  refine lv_if_ne (tgt := 2204) hx hb dL_law_2188 (by decide) (fun c_1 => ?_) (fun c_1 => ?_)
  · refine lv_goto (tgt := 3946) hx hb dL_law_2204 (by decide) ?_
    refine W.widen (k := cells + 200) (n := slots + 5000) (by first | exact Nat.le_of_eq (Nat.add_assoc _ _ _) | omega) (by first | exact Nat.le_of_eq (Nat.add_assoc _ _ _) | omega) ?_
    exact kk n9 sv9 S9 ((gX2_minusHours T p0 p1).2) _ _ ls (rel_minusHours hR h9) hP hD hS (lv_sub hl [2, 3, 4, 5, 6] rfl)
  · refine lv_aload_n hx hb dL_law_2191 rfl (lv_at hl 5 rfl) ?_
    refine va_getN (D := gD G) (cl := vwCl) (tys := gT G) (ci := 3) (v := .long n9) (C := RX1) (T := TX1) (N := 2) hx hb hw inB_X1 hown hE.K hP 5 rfl rfl 0 (by decide) (va_Nw.use rfl hN.2.1) (fun _ h9 => h9) rfl dL_law_2192 ?_
    refine lv_iload hx hb dL_law_2195 (lv_at hl 0 rfl) ?_
    refine lv_i2l (v := (((gX2_minusHours T p0 p1).1).toInt64)) hx hb dL_law_2197 (by first | rfl | decide) ?_
    refine W.lcmp hx hb dL_law_2198 ?_
    refine lv_if_eq (tgt := 2204) hx hb dL_law_2199 (by decide) (fun _ => ?_) (fun c_x => absurd (lgc_eq.mpr (by rw [hc9.2 c_1])) c_x)
    refine lv_goto (tgt := 3946) hx hb dL_law_2204 (by decide) ?_
    refine W.widen (k := cells + 200) (n := slots + 5000) (by first | exact Nat.le_of_eq (Nat.add_assoc _ _ _) | omega) (by first | exact Nat.le_of_eq (Nat.add_assoc _ _ _) | omega) ?_
    exact kk n9 sv9 S9 ((gX2_minusHours T p0 p1).2) _ _ ls (rel_minusHours hR h9) hP hD hS (lv_sub hl [2, 3, 4, 5, 6] rfl)

set_option maxRecDepth 100000 in
set_option maxHeartbeats 4000000 in
theorem case_minusMinutes {p : Program} {l : Launch} {e : Env} {s : State} {m : MethodId} {below : List Frame} {meth : Method} {c : Code} {Q : State → Prop} {G : GT} {b9 L9 : Nat} {xs : Nat → Int32} {a bb : Nat → Nat} {o : Nat} (Z : LW p l s m meth c G b9 L9 xs) {i cells slots : Nat} (hi : i + 6 ≤ L9) (hf : cells + 200 ≤ room_1.cells ∧ slots + 5000 ≤ room_1.slots) {n : Int64} {sv : Value} {S : SX} {T : SM} (hR : Rel S T) {H : Heap} {locs : List Loc} {ls : Array Slot} (hP : va_P (gD G) vwCl (wM G bb T ++ wH G a o n sv S) H) (hD : va_D (fun q : Nat => s.heap.size ≤ q) (wM G bb T ++ wH G a o n sv S)) (hS : va_S (fun q : Nat => s.heap.size ≤ q) s.heap H locs) (hl : lv_has ls 7 [(0, .ref b9), (1, .ref (a 0)), (2, .ref (bb 0)), (3, .ref o), (4, .int (nI i))]) (kk : ∀ (n : Int64) (sv : Value) (S : SX) (T : SM) (H : Heap) (locs : List Loc) (ls : Array Slot), Rel S T → va_P (gD G) vwCl (wM G bb T ++ wH G a o n sv S) H → va_D (fun q : Nat => s.heap.size ≤ q) (wM G bb T ++ wH G a o n sv S) → va_S (fun q : Nat => s.heap.size ≤ q) s.heap H locs → lv_has ls 7 [(0, .ref b9), (1, .ref (a 0)), (2, .ref (bb 0)), (3, .ref o), (4, .int (nI i))] → W p l e room_1 s m #[Value.ref b9] below meth c H locs (cells + 200) (slots + 5000) Q (F0 m 3946 ls [])) : W p l e room_1 s m #[Value.ref b9] below meth c H locs (cells) (slots) Q (F0 m 2207 ls []) := by
  obtain ⟨C, hE, hN, hX, hbl, hl9, hL9, hA, hAB, hbA⟩ := Z
  have hx := C.1
  have hb := C.2.1
  have hml := C.2.2.1
  have hown := C.2.2.2.1
  have hw := C.2.2.2.2
  obtain ⟨hf0, hf1, hf2⟩ := lw_hf hf
  have hf3 := hf2
  obtain ⟨p0, hp0⟩ : ∃ y : Int32, xs (nI (i + 1)).toNatClampNeg = y := ⟨_, rfl⟩
  obtain ⟨p1, hp1⟩ : ∃ y : Int32, xs (nI (i + 2)).toNatClampNeg = y := ⟨_, rfl⟩
  refine lv_aload_n hx hb dL_law_2207 rfl (lv_at hl 1 rfl) ?_
  refine lv_aload_n hx hb dL_law_2208 rfl (lv_at hl 0 rfl) ?_
  refine lv_iload hx hb dL_law_2209 (lv_at hl 4 rfl) ?_
  refine lv_iconst (v := (1 : Int32)) hx hb dL_law_2211 qi_1 ?_
  refine lv_iadd hx hb dL_law_2212 ?_
  refine k_foldi (y := (nI (i + 1))) (nI_add i 1) ?_
  refine va_sld hx hb hX hbl hbA hS (lw_in hi hL9 rfl) dL_law_2213 ?_
  refine k_foldi (y := p0) hp0 ?_
  refine lv_aload_n hx hb dL_law_2214 rfl (lv_at hl 0 rfl) ?_
  refine lv_iload hx hb dL_law_2215 (lv_at hl 4 rfl) ?_
  refine lv_iconst (v := (2 : Int32)) hx hb dL_law_2217 qi_2 ?_
  refine lv_iadd hx hb dL_law_2218 ?_
  refine k_foldi (y := (nI (i + 2))) (nI_add i 2) ?_
  refine va_sld hx hb hX hbl hbA hS (lw_in hi hL9 rfl) dL_law_2219 ?_
  refine k_foldi (y := p1) hp1 ?_
  refine lv_aload_n hx hb dL_law_2220 rfl (lv_at hl 3 rfl) ?_
  refine lwHelp (n := 4) (wr := (wM G bb T)) (wd := (wH G a o n sv S)) (as := [.ref (a 0), .int p0, .int p1, .ref o]) (rest := []) C (k_minusMinutes l hl9 G a o n sv S p0 p1) bw642 bw56 (by decide +kernel) rfl bw640 bw641 hN (hE.S hS hAB) hP hD hS hA hAB hl.1 dL_law_2221 ⟨(Nat.le_of_ble_eq_true rfl), (Nat.le_of_ble_eq_true rfl)⟩ rfl (Nat.le_of_ble_eq_true rfl) hf1 (fun r9 wd9 H locs hp9 hP hD hS => ?_)
  obtain ⟨c9, n9, sv9, S9, rfl, rfl, h9⟩ := hp9
  refine W.eq (g2 := F0 m 2224 ls [.int c9]) rfl ?_
  refine lv_istore (lv' := [(5, .int c9), (0, .ref b9), (1, .ref (a 0)), (2, .ref (bb 0)), (3, .ref o), (4, .int (nI i))]) hx hb dL_law_2224 hl (Nat.le_of_ble_eq_true rfl) rfl (fun ls hl => ?_)
  refine lv_aload_n hx hb dL_law_2226 rfl (lv_at hl 3 rfl) ?_
  refine lv_aload_n hx hb dL_law_2227 rfl (lv_at hl 1 rfl) ?_
  refine lv_iload hx hb dL_law_2228 (lv_at hl 5 rfl) ?_
  refine lv_iconst (v := (1 : Int32)) hx hb dL_law_2230 qi_1 ?_
  refine lv_iadd hx hb dL_law_2231 ?_
  refine k_foldi (y := (nI (i + 1))) (nI_add i 1) ?_
  refine va_sld hx hb hX hbl hbA hS (lw_in hi hL9 rfl) dL_law_2232 ?_
  refine k_foldi (y := p0) hp0 ?_
  refine lv_aload_n hx hb dL_law_2233 rfl (lv_at hl 1 rfl) ?_
  refine lv_iload hx hb dL_law_2234 (lv_at hl 5 rfl) ?_
  refine lv_iconst (v := (2 : Int32)) hx hb dL_law_2236 qi_2 ?_
  refine lv_iadd hx hb dL_law_2237 ?_
  refine k_foldi (y := (nI (i + 2))) (nI_add i 2) ?_
  refine va_sld hx hb hX hbl hbA hS (lw_in hi hL9 rfl) dL_law_2238 ?_
  refine k_foldi (y := p1) hp1 ?_
  refine lwWR (MC := 170) (MS := 4200) (st1 := [.int ((gX2_minusMinutes T p0 p1).1)]) (wr := (wH G a o n9 sv9 S9)) (wd := (wM G bb T)) (as := [.int p0, .int p1]) (rest := []) (cl := RX2) (Nat.le_of_ble_eq_true rfl) (Nat.le_of_ble_eq_true rfl) C (c_X2_minusMinutes l G bb T p0 p1 (Rel.mo hR)) F_X2_minusMinutes rfl bw1423 bw1424 bw1425 (hE.S hS hAB) hP hD hS hA hAB (rv4 hE.K (P_tl (wr := (wH G a o n9 sv9 S9)) hP) (q0 := 0) rfl) hl.1 dL_law_2239 ⟨(Nat.le_of_ble_eq_true rfl), (Nat.le_of_ble_eq_true rfl)⟩ rfl (Nat.le_of_ble_eq_true rfl) hf2 rfl (fun H locs hP hD hS => ?_)
  have hc9 := cmp_minusMinutes hR h9
  refine lv_istore (lv' := [(6, .int ((gX2_minusMinutes T p0 p1).1)), (5, .int c9), (0, .ref b9), (1, .ref (a 0)), (2, .ref (bb 0)), (3, .ref o), (4, .int (nI i))]) hx hb dL_law_2242 hl (Nat.le_of_ble_eq_true rfl) rfl (fun ls hl => ?_)
  refine lv_aload_n hx hb dL_law_2244 rfl (lv_at hl 4 rfl) ?_
  refine rcVf (st1 := [.int (fX2_thrown ((gX2_minusMinutes T p0 p1).2))]) (as := []) (rest := []) (cl := RX2) C (c_X2_thrown l G bb ((gX2_minusMinutes T p0 p1).2)) F_X2_thrown rfl bw1200 bw1201 (hw _ bw1202) (hE.S hS hAB) (P_hd hP) (rv4 hE.K (P_hd hP) (q0 := 0) rfl) hl.1 dL_law_2245 ⟨Nat.le_of_ble_eq_true rfl, Nat.le_of_ble_eq_true rfl⟩ rfl (Nat.le_of_ble_eq_true rfl) hf3 rfl ?_
  refine k_foldi (y := c9) hc9.1 ?_
  refine lv_iload hx hb dL_law_2248 (lv_at hl 1 rfl) ?_
  refine lv_icmp_eq (tgt := 2255) hx hb dL_law_2250 (by decide) (fun _ => ?_) (fun c_x => absurd rfl c_x)
  refine lv_iload hx hb dL_law_2255 (lv_at hl 1 rfl) ?_
  refine lv_if_ne (tgt := 2273) hx hb dL_law_2257 (by decide) (fun c_1 => ?_) (fun c_1 => ?_)
  · refine lv_goto (tgt := 3946) hx hb dL_law_2273 (by decide) ?_
    refine W.widen (k := cells + 200) (n := slots + 5000) (by first | exact Nat.le_of_eq (Nat.add_assoc _ _ _) | omega) (by first | exact Nat.le_of_eq (Nat.add_assoc _ _ _) | omega) ?_
    exact kk n9 sv9 S9 ((gX2_minusMinutes T p0 p1).2) _ _ ls (rel_minusMinutes hR h9) hP hD hS (lv_sub hl [2, 3, 4, 5, 6] rfl)
  · refine lv_aload_n hx hb dL_law_2260 rfl (lv_at hl 5 rfl) ?_
    refine va_getN (D := gD G) (cl := vwCl) (tys := gT G) (ci := 3) (v := .long n9) (C := RX1) (T := TX1) (N := 2) hx hb hw inB_X1 hown hE.K hP 5 rfl rfl 0 (by decide) (va_Nw.use rfl hN.2.1) (fun _ h9 => h9) rfl dL_law_2261 ?_
    refine lv_iload hx hb dL_law_2264 (lv_at hl 0 rfl) ?_
    refine lv_i2l (v := (((gX2_minusMinutes T p0 p1).1).toInt64)) hx hb dL_law_2266 (by first | rfl | decide) ?_
    refine W.lcmp hx hb dL_law_2267 ?_
    refine lv_if_eq (tgt := 2273) hx hb dL_law_2268 (by decide) (fun _ => ?_) (fun c_x => absurd (lgc_eq.mpr (by rw [hc9.2 c_1])) c_x)
    refine lv_goto (tgt := 3946) hx hb dL_law_2273 (by decide) ?_
    refine W.widen (k := cells + 200) (n := slots + 5000) (by first | exact Nat.le_of_eq (Nat.add_assoc _ _ _) | omega) (by first | exact Nat.le_of_eq (Nat.add_assoc _ _ _) | omega) ?_
    exact kk n9 sv9 S9 ((gX2_minusMinutes T p0 p1).2) _ _ ls (rel_minusMinutes hR h9) hP hD hS (lv_sub hl [2, 3, 4, 5, 6] rfl)

set_option maxRecDepth 100000 in
set_option maxHeartbeats 4000000 in
theorem case_minusSeconds {p : Program} {l : Launch} {e : Env} {s : State} {m : MethodId} {below : List Frame} {meth : Method} {c : Code} {Q : State → Prop} {G : GT} {b9 L9 : Nat} {xs : Nat → Int32} {a bb : Nat → Nat} {o : Nat} (Z : LW p l s m meth c G b9 L9 xs) {i cells slots : Nat} (hi : i + 6 ≤ L9) (hf : cells + 200 ≤ room_1.cells ∧ slots + 5000 ≤ room_1.slots) {n : Int64} {sv : Value} {S : SX} {T : SM} (hR : Rel S T) {H : Heap} {locs : List Loc} {ls : Array Slot} (hP : va_P (gD G) vwCl (wM G bb T ++ wH G a o n sv S) H) (hD : va_D (fun q : Nat => s.heap.size ≤ q) (wM G bb T ++ wH G a o n sv S)) (hS : va_S (fun q : Nat => s.heap.size ≤ q) s.heap H locs) (hl : lv_has ls 7 [(0, .ref b9), (1, .ref (a 0)), (2, .ref (bb 0)), (3, .ref o), (4, .int (nI i))]) (kk : ∀ (n : Int64) (sv : Value) (S : SX) (T : SM) (H : Heap) (locs : List Loc) (ls : Array Slot), Rel S T → va_P (gD G) vwCl (wM G bb T ++ wH G a o n sv S) H → va_D (fun q : Nat => s.heap.size ≤ q) (wM G bb T ++ wH G a o n sv S) → va_S (fun q : Nat => s.heap.size ≤ q) s.heap H locs → lv_has ls 7 [(0, .ref b9), (1, .ref (a 0)), (2, .ref (bb 0)), (3, .ref o), (4, .int (nI i))] → W p l e room_1 s m #[Value.ref b9] below meth c H locs (cells + 200) (slots + 5000) Q (F0 m 3946 ls [])) : W p l e room_1 s m #[Value.ref b9] below meth c H locs (cells) (slots) Q (F0 m 2276 ls []) := by
  obtain ⟨C, hE, hN, hX, hbl, hl9, hL9, hA, hAB, hbA⟩ := Z
  have hx := C.1
  have hb := C.2.1
  have hml := C.2.2.1
  have hown := C.2.2.2.1
  have hw := C.2.2.2.2
  obtain ⟨hf0, hf1, hf2⟩ := lw_hf hf
  have hf3 := hf2
  obtain ⟨p0, hp0⟩ : ∃ y : Int32, xs (nI (i + 1)).toNatClampNeg = y := ⟨_, rfl⟩
  obtain ⟨p1, hp1⟩ : ∃ y : Int32, xs (nI (i + 2)).toNatClampNeg = y := ⟨_, rfl⟩
  refine lv_aload_n hx hb dL_law_2276 rfl (lv_at hl 1 rfl) ?_
  refine lv_aload_n hx hb dL_law_2277 rfl (lv_at hl 0 rfl) ?_
  refine lv_iload hx hb dL_law_2278 (lv_at hl 4 rfl) ?_
  refine lv_iconst (v := (1 : Int32)) hx hb dL_law_2280 qi_1 ?_
  refine lv_iadd hx hb dL_law_2281 ?_
  refine k_foldi (y := (nI (i + 1))) (nI_add i 1) ?_
  refine va_sld hx hb hX hbl hbA hS (lw_in hi hL9 rfl) dL_law_2282 ?_
  refine k_foldi (y := p0) hp0 ?_
  refine lv_aload_n hx hb dL_law_2283 rfl (lv_at hl 0 rfl) ?_
  refine lv_iload hx hb dL_law_2284 (lv_at hl 4 rfl) ?_
  refine lv_iconst (v := (2 : Int32)) hx hb dL_law_2286 qi_2 ?_
  refine lv_iadd hx hb dL_law_2287 ?_
  refine k_foldi (y := (nI (i + 2))) (nI_add i 2) ?_
  refine va_sld hx hb hX hbl hbA hS (lw_in hi hL9 rfl) dL_law_2288 ?_
  refine k_foldi (y := p1) hp1 ?_
  refine lv_aload_n hx hb dL_law_2289 rfl (lv_at hl 3 rfl) ?_
  refine lwHelp (n := 4) (wr := (wM G bb T)) (wd := (wH G a o n sv S)) (as := [.ref (a 0), .int p0, .int p1, .ref o]) (rest := []) C (k_minusSeconds l hl9 G a o n sv S p0 p1) bw649 bw56 (by decide +kernel) rfl bw647 bw648 hN (hE.S hS hAB) hP hD hS hA hAB hl.1 dL_law_2290 ⟨(Nat.le_of_ble_eq_true rfl), (Nat.le_of_ble_eq_true rfl)⟩ rfl (Nat.le_of_ble_eq_true rfl) hf1 (fun r9 wd9 H locs hp9 hP hD hS => ?_)
  obtain ⟨c9, n9, sv9, S9, rfl, rfl, h9⟩ := hp9
  refine W.eq (g2 := F0 m 2293 ls [.int c9]) rfl ?_
  refine lv_istore (lv' := [(5, .int c9), (0, .ref b9), (1, .ref (a 0)), (2, .ref (bb 0)), (3, .ref o), (4, .int (nI i))]) hx hb dL_law_2293 hl (Nat.le_of_ble_eq_true rfl) rfl (fun ls hl => ?_)
  refine lv_aload_n hx hb dL_law_2295 rfl (lv_at hl 3 rfl) ?_
  refine lv_aload_n hx hb dL_law_2296 rfl (lv_at hl 1 rfl) ?_
  refine lv_iload hx hb dL_law_2297 (lv_at hl 5 rfl) ?_
  refine lv_iconst (v := (1 : Int32)) hx hb dL_law_2299 qi_1 ?_
  refine lv_iadd hx hb dL_law_2300 ?_
  refine k_foldi (y := (nI (i + 1))) (nI_add i 1) ?_
  refine va_sld hx hb hX hbl hbA hS (lw_in hi hL9 rfl) dL_law_2301 ?_
  refine k_foldi (y := p0) hp0 ?_
  refine lv_aload_n hx hb dL_law_2302 rfl (lv_at hl 1 rfl) ?_
  refine lv_iload hx hb dL_law_2303 (lv_at hl 5 rfl) ?_
  refine lv_iconst (v := (2 : Int32)) hx hb dL_law_2305 qi_2 ?_
  refine lv_iadd hx hb dL_law_2306 ?_
  refine k_foldi (y := (nI (i + 2))) (nI_add i 2) ?_
  refine va_sld hx hb hX hbl hbA hS (lw_in hi hL9 rfl) dL_law_2307 ?_
  refine k_foldi (y := p1) hp1 ?_
  refine lwWR (MC := 170) (MS := 4200) (st1 := [.int ((gX2_minusSeconds T p0 p1).1)]) (wr := (wH G a o n9 sv9 S9)) (wd := (wM G bb T)) (as := [.int p0, .int p1]) (rest := []) (cl := RX2) (Nat.le_of_ble_eq_true rfl) (Nat.le_of_ble_eq_true rfl) C (c_X2_minusSeconds l G bb T p0 p1 (Rel.mo hR)) F_X2_minusSeconds rfl bw1427 bw1428 bw1429 (hE.S hS hAB) hP hD hS hA hAB (rv4 hE.K (P_tl (wr := (wH G a o n9 sv9 S9)) hP) (q0 := 0) rfl) hl.1 dL_law_2308 ⟨(Nat.le_of_ble_eq_true rfl), (Nat.le_of_ble_eq_true rfl)⟩ rfl (Nat.le_of_ble_eq_true rfl) hf2 rfl (fun H locs hP hD hS => ?_)
  have hc9 := cmp_minusSeconds hR h9
  refine lv_istore (lv' := [(6, .int ((gX2_minusSeconds T p0 p1).1)), (5, .int c9), (0, .ref b9), (1, .ref (a 0)), (2, .ref (bb 0)), (3, .ref o), (4, .int (nI i))]) hx hb dL_law_2311 hl (Nat.le_of_ble_eq_true rfl) rfl (fun ls hl => ?_)
  refine lv_aload_n hx hb dL_law_2313 rfl (lv_at hl 4 rfl) ?_
  refine rcVf (st1 := [.int (fX2_thrown ((gX2_minusSeconds T p0 p1).2))]) (as := []) (rest := []) (cl := RX2) C (c_X2_thrown l G bb ((gX2_minusSeconds T p0 p1).2)) F_X2_thrown rfl bw1200 bw1201 (hw _ bw1202) (hE.S hS hAB) (P_hd hP) (rv4 hE.K (P_hd hP) (q0 := 0) rfl) hl.1 dL_law_2314 ⟨Nat.le_of_ble_eq_true rfl, Nat.le_of_ble_eq_true rfl⟩ rfl (Nat.le_of_ble_eq_true rfl) hf3 rfl ?_
  refine k_foldi (y := c9) hc9.1 ?_
  refine lv_iload hx hb dL_law_2317 (lv_at hl 1 rfl) ?_
  refine lv_icmp_eq (tgt := 2324) hx hb dL_law_2319 (by decide) (fun _ => ?_) (fun c_x => absurd rfl c_x)
  refine lv_iload hx hb dL_law_2324 (lv_at hl 1 rfl) ?_
  refine lv_if_ne (tgt := 2342) hx hb dL_law_2326 (by decide) (fun c_1 => ?_) (fun c_1 => ?_)
  · refine lv_goto (tgt := 3946) hx hb dL_law_2342 (by decide) ?_
    refine W.widen (k := cells + 200) (n := slots + 5000) (by first | exact Nat.le_of_eq (Nat.add_assoc _ _ _) | omega) (by first | exact Nat.le_of_eq (Nat.add_assoc _ _ _) | omega) ?_
    exact kk n9 sv9 S9 ((gX2_minusSeconds T p0 p1).2) _ _ ls (rel_minusSeconds hR h9) hP hD hS (lv_sub hl [2, 3, 4, 5, 6] rfl)
  · refine lv_aload_n hx hb dL_law_2329 rfl (lv_at hl 5 rfl) ?_
    refine va_getN (D := gD G) (cl := vwCl) (tys := gT G) (ci := 3) (v := .long n9) (C := RX1) (T := TX1) (N := 2) hx hb hw inB_X1 hown hE.K hP 5 rfl rfl 0 (by decide) (va_Nw.use rfl hN.2.1) (fun _ h9 => h9) rfl dL_law_2330 ?_
    refine lv_iload hx hb dL_law_2333 (lv_at hl 0 rfl) ?_
    refine lv_i2l (v := (((gX2_minusSeconds T p0 p1).1).toInt64)) hx hb dL_law_2335 (by first | rfl | decide) ?_
    refine W.lcmp hx hb dL_law_2336 ?_
    refine lv_if_eq (tgt := 2342) hx hb dL_law_2337 (by decide) (fun _ => ?_) (fun c_x => absurd (lgc_eq.mpr (by rw [hc9.2 c_1])) c_x)
    refine lv_goto (tgt := 3946) hx hb dL_law_2342 (by decide) ?_
    refine W.widen (k := cells + 200) (n := slots + 5000) (by first | exact Nat.le_of_eq (Nat.add_assoc _ _ _) | omega) (by first | exact Nat.le_of_eq (Nat.add_assoc _ _ _) | omega) ?_
    exact kk n9 sv9 S9 ((gX2_minusSeconds T p0 p1).2) _ _ ls (rel_minusSeconds hR h9) hP hD hS (lv_sub hl [2, 3, 4, 5, 6] rfl)

set_option maxRecDepth 100000 in
set_option maxHeartbeats 4000000 in
theorem case_plusNanos {p : Program} {l : Launch} {e : Env} {s : State} {m : MethodId} {below : List Frame} {meth : Method} {c : Code} {Q : State → Prop} {G : GT} {b9 L9 : Nat} {xs : Nat → Int32} {a bb : Nat → Nat} {o : Nat} (Z : LW p l s m meth c G b9 L9 xs) {i cells slots : Nat} (hi : i + 6 ≤ L9) (hf : cells + 200 ≤ room_1.cells ∧ slots + 5000 ≤ room_1.slots) {n : Int64} {sv : Value} {S : SX} {T : SM} (hR : Rel S T) {H : Heap} {locs : List Loc} {ls : Array Slot} (hP : va_P (gD G) vwCl (wM G bb T ++ wH G a o n sv S) H) (hD : va_D (fun q : Nat => s.heap.size ≤ q) (wM G bb T ++ wH G a o n sv S)) (hS : va_S (fun q : Nat => s.heap.size ≤ q) s.heap H locs) (hl : lv_has ls 7 [(0, .ref b9), (1, .ref (a 0)), (2, .ref (bb 0)), (3, .ref o), (4, .int (nI i))]) (kk : ∀ (n : Int64) (sv : Value) (S : SX) (T : SM) (H : Heap) (locs : List Loc) (ls : Array Slot), Rel S T → va_P (gD G) vwCl (wM G bb T ++ wH G a o n sv S) H → va_D (fun q : Nat => s.heap.size ≤ q) (wM G bb T ++ wH G a o n sv S) → va_S (fun q : Nat => s.heap.size ≤ q) s.heap H locs → lv_has ls 7 [(0, .ref b9), (1, .ref (a 0)), (2, .ref (bb 0)), (3, .ref o), (4, .int (nI i))] → W p l e room_1 s m #[Value.ref b9] below meth c H locs (cells + 200) (slots + 5000) Q (F0 m 3946 ls [])) : W p l e room_1 s m #[Value.ref b9] below meth c H locs (cells) (slots) Q (F0 m 2345 ls []) := by
  obtain ⟨C, hE, hN, hX, hbl, hl9, hL9, hA, hAB, hbA⟩ := Z
  have hx := C.1
  have hb := C.2.1
  have hml := C.2.2.1
  have hown := C.2.2.2.1
  have hw := C.2.2.2.2
  obtain ⟨hf0, hf1, hf2⟩ := lw_hf hf
  have hf3 := hf2
  obtain ⟨p0, hp0⟩ : ∃ y : Int32, xs (nI (i + 1)).toNatClampNeg = y := ⟨_, rfl⟩
  obtain ⟨p1, hp1⟩ : ∃ y : Int32, xs (nI (i + 2)).toNatClampNeg = y := ⟨_, rfl⟩
  obtain ⟨p2, hp2⟩ : ∃ y : Int32, xs (nI (i + 3)).toNatClampNeg = y := ⟨_, rfl⟩
  refine lv_aload_n hx hb dL_law_2345 rfl (lv_at hl 1 rfl) ?_
  refine lv_aload_n hx hb dL_law_2346 rfl (lv_at hl 0 rfl) ?_
  refine lv_iload hx hb dL_law_2347 (lv_at hl 4 rfl) ?_
  refine lv_iconst (v := (1 : Int32)) hx hb dL_law_2349 qi_1 ?_
  refine lv_iadd hx hb dL_law_2350 ?_
  refine k_foldi (y := (nI (i + 1))) (nI_add i 1) ?_
  refine va_sld hx hb hX hbl hbA hS (lw_in hi hL9 rfl) dL_law_2351 ?_
  refine k_foldi (y := p0) hp0 ?_
  refine lv_aload_n hx hb dL_law_2352 rfl (lv_at hl 0 rfl) ?_
  refine lv_iload hx hb dL_law_2353 (lv_at hl 4 rfl) ?_
  refine lv_iconst (v := (2 : Int32)) hx hb dL_law_2355 qi_2 ?_
  refine lv_iadd hx hb dL_law_2356 ?_
  refine k_foldi (y := (nI (i + 2))) (nI_add i 2) ?_
  refine va_sld hx hb hX hbl hbA hS (lw_in hi hL9 rfl) dL_law_2357 ?_
  refine k_foldi (y := p1) hp1 ?_
  refine lv_aload_n hx hb dL_law_2358 rfl (lv_at hl 0 rfl) ?_
  refine lv_iload hx hb dL_law_2359 (lv_at hl 4 rfl) ?_
  refine lv_iconst (v := (3 : Int32)) hx hb dL_law_2361 qi_3 ?_
  refine lv_iadd hx hb dL_law_2362 ?_
  refine k_foldi (y := (nI (i + 3))) (nI_add i 3) ?_
  refine va_sld hx hb hX hbl hbA hS (lw_in hi hL9 rfl) dL_law_2363 ?_
  refine k_foldi (y := p2) hp2 ?_
  refine lv_aload_n hx hb dL_law_2364 rfl (lv_at hl 3 rfl) ?_
  refine lwHelp (n := 5) (wr := (wM G bb T)) (wd := (wH G a o n sv S)) (as := [.ref (a 0), .int p0, .int p1, .int p2, .ref o]) (rest := []) C (k_plusNanos l hl9 G a o n sv S p0 p1 p2) bw656 bw56 (by decide +kernel) rfl bw654 bw655 hN (hE.S hS hAB) hP hD hS hA hAB hl.1 dL_law_2365 ⟨(Nat.le_of_ble_eq_true rfl), (Nat.le_of_ble_eq_true rfl)⟩ rfl (Nat.le_of_ble_eq_true rfl) hf1 (fun r9 wd9 H locs hp9 hP hD hS => ?_)
  obtain ⟨c9, n9, sv9, S9, rfl, rfl, h9⟩ := hp9
  refine W.eq (g2 := F0 m 2368 ls [.int c9]) rfl ?_
  refine lv_istore (lv' := [(5, .int c9), (0, .ref b9), (1, .ref (a 0)), (2, .ref (bb 0)), (3, .ref o), (4, .int (nI i))]) hx hb dL_law_2368 hl (Nat.le_of_ble_eq_true rfl) rfl (fun ls hl => ?_)
  refine lv_aload_n hx hb dL_law_2370 rfl (lv_at hl 3 rfl) ?_
  refine lv_aload_n hx hb dL_law_2371 rfl (lv_at hl 1 rfl) ?_
  refine lv_iload hx hb dL_law_2372 (lv_at hl 5 rfl) ?_
  refine lv_iconst (v := (1 : Int32)) hx hb dL_law_2374 qi_1 ?_
  refine lv_iadd hx hb dL_law_2375 ?_
  refine k_foldi (y := (nI (i + 1))) (nI_add i 1) ?_
  refine va_sld hx hb hX hbl hbA hS (lw_in hi hL9 rfl) dL_law_2376 ?_
  refine k_foldi (y := p0) hp0 ?_
  refine lv_aload_n hx hb dL_law_2377 rfl (lv_at hl 1 rfl) ?_
  refine lv_iload hx hb dL_law_2378 (lv_at hl 5 rfl) ?_
  refine lv_iconst (v := (2 : Int32)) hx hb dL_law_2380 qi_2 ?_
  refine lv_iadd hx hb dL_law_2381 ?_
  refine k_foldi (y := (nI (i + 2))) (nI_add i 2) ?_
  refine va_sld hx hb hX hbl hbA hS (lw_in hi hL9 rfl) dL_law_2382 ?_
  refine k_foldi (y := p1) hp1 ?_
  refine lv_aload_n hx hb dL_law_2383 rfl (lv_at hl 1 rfl) ?_
  refine lv_iload hx hb dL_law_2384 (lv_at hl 5 rfl) ?_
  refine lv_iconst (v := (3 : Int32)) hx hb dL_law_2386 qi_3 ?_
  refine lv_iadd hx hb dL_law_2387 ?_
  refine k_foldi (y := (nI (i + 3))) (nI_add i 3) ?_
  refine va_sld hx hb hX hbl hbA hS (lw_in hi hL9 rfl) dL_law_2388 ?_
  refine k_foldi (y := p2) hp2 ?_
  refine lwWR (MC := 170) (MS := 4200) (st1 := [.int ((gX2_plusNanos T p0 p1 p2).1)]) (wr := (wH G a o n9 sv9 S9)) (wd := (wM G bb T)) (as := [.int p0, .int p1, .int p2]) (rest := []) (cl := RX2) (Nat.le_of_ble_eq_true rfl) (Nat.le_of_ble_eq_true rfl) C (c_X2_plusNanos l G bb T p0 p1 p2 (Rel.mo hR)) F_X2_plusNanos rfl bw1431 bw1432 bw1433 (hE.S hS hAB) hP hD hS hA hAB (rv4 hE.K (P_tl (wr := (wH G a o n9 sv9 S9)) hP) (q0 := 0) rfl) hl.1 dL_law_2389 ⟨(Nat.le_of_ble_eq_true rfl), (Nat.le_of_ble_eq_true rfl)⟩ rfl (Nat.le_of_ble_eq_true rfl) hf2 rfl (fun H locs hP hD hS => ?_)
  have hc9 := cmp_plusNanos hR h9
  refine lv_istore (lv' := [(6, .int ((gX2_plusNanos T p0 p1 p2).1)), (5, .int c9), (0, .ref b9), (1, .ref (a 0)), (2, .ref (bb 0)), (3, .ref o), (4, .int (nI i))]) hx hb dL_law_2392 hl (Nat.le_of_ble_eq_true rfl) rfl (fun ls hl => ?_)
  refine lv_aload_n hx hb dL_law_2394 rfl (lv_at hl 4 rfl) ?_
  refine rcVf (st1 := [.int (fX2_thrown ((gX2_plusNanos T p0 p1 p2).2))]) (as := []) (rest := []) (cl := RX2) C (c_X2_thrown l G bb ((gX2_plusNanos T p0 p1 p2).2)) F_X2_thrown rfl bw1200 bw1201 (hw _ bw1202) (hE.S hS hAB) (P_hd hP) (rv4 hE.K (P_hd hP) (q0 := 0) rfl) hl.1 dL_law_2395 ⟨Nat.le_of_ble_eq_true rfl, Nat.le_of_ble_eq_true rfl⟩ rfl (Nat.le_of_ble_eq_true rfl) hf3 rfl ?_
  refine k_foldi (y := c9) hc9.1 ?_
  refine lv_iload hx hb dL_law_2398 (lv_at hl 1 rfl) ?_
  refine lv_icmp_eq (tgt := 2405) hx hb dL_law_2400 (by decide) (fun _ => ?_) (fun c_x => absurd rfl c_x)
  refine lv_iload hx hb dL_law_2405 (lv_at hl 1 rfl) ?_
  refine lv_if_ne (tgt := 2423) hx hb dL_law_2407 (by decide) (fun c_1 => ?_) (fun c_1 => ?_)
  · refine lv_goto (tgt := 3946) hx hb dL_law_2423 (by decide) ?_
    refine W.widen (k := cells + 200) (n := slots + 5000) (by first | exact Nat.le_of_eq (Nat.add_assoc _ _ _) | omega) (by first | exact Nat.le_of_eq (Nat.add_assoc _ _ _) | omega) ?_
    exact kk n9 sv9 S9 ((gX2_plusNanos T p0 p1 p2).2) _ _ ls (rel_plusNanos hR h9) hP hD hS (lv_sub hl [2, 3, 4, 5, 6] rfl)
  · refine lv_aload_n hx hb dL_law_2410 rfl (lv_at hl 5 rfl) ?_
    refine va_getN (D := gD G) (cl := vwCl) (tys := gT G) (ci := 3) (v := .long n9) (C := RX1) (T := TX1) (N := 2) hx hb hw inB_X1 hown hE.K hP 5 rfl rfl 0 (by decide) (va_Nw.use rfl hN.2.1) (fun _ h9 => h9) rfl dL_law_2411 ?_
    refine lv_iload hx hb dL_law_2414 (lv_at hl 0 rfl) ?_
    refine lv_i2l (v := (((gX2_plusNanos T p0 p1 p2).1).toInt64)) hx hb dL_law_2416 (by first | rfl | decide) ?_
    refine W.lcmp hx hb dL_law_2417 ?_
    refine lv_if_eq (tgt := 2423) hx hb dL_law_2418 (by decide) (fun _ => ?_) (fun c_x => absurd (lgc_eq.mpr (by rw [hc9.2 c_1])) c_x)
    refine lv_goto (tgt := 3946) hx hb dL_law_2423 (by decide) ?_
    refine W.widen (k := cells + 200) (n := slots + 5000) (by first | exact Nat.le_of_eq (Nat.add_assoc _ _ _) | omega) (by first | exact Nat.le_of_eq (Nat.add_assoc _ _ _) | omega) ?_
    exact kk n9 sv9 S9 ((gX2_plusNanos T p0 p1 p2).2) _ _ ls (rel_plusNanos hR h9) hP hD hS (lv_sub hl [2, 3, 4, 5, 6] rfl)

set_option maxRecDepth 100000 in
set_option maxHeartbeats 4000000 in
theorem case_minusNanos {p : Program} {l : Launch} {e : Env} {s : State} {m : MethodId} {below : List Frame} {meth : Method} {c : Code} {Q : State → Prop} {G : GT} {b9 L9 : Nat} {xs : Nat → Int32} {a bb : Nat → Nat} {o : Nat} (Z : LW p l s m meth c G b9 L9 xs) {i cells slots : Nat} (hi : i + 6 ≤ L9) (hf : cells + 200 ≤ room_1.cells ∧ slots + 5000 ≤ room_1.slots) {n : Int64} {sv : Value} {S : SX} {T : SM} (hR : Rel S T) {H : Heap} {locs : List Loc} {ls : Array Slot} (hP : va_P (gD G) vwCl (wM G bb T ++ wH G a o n sv S) H) (hD : va_D (fun q : Nat => s.heap.size ≤ q) (wM G bb T ++ wH G a o n sv S)) (hS : va_S (fun q : Nat => s.heap.size ≤ q) s.heap H locs) (hl : lv_has ls 7 [(0, .ref b9), (1, .ref (a 0)), (2, .ref (bb 0)), (3, .ref o), (4, .int (nI i))]) (kk : ∀ (n : Int64) (sv : Value) (S : SX) (T : SM) (H : Heap) (locs : List Loc) (ls : Array Slot), Rel S T → va_P (gD G) vwCl (wM G bb T ++ wH G a o n sv S) H → va_D (fun q : Nat => s.heap.size ≤ q) (wM G bb T ++ wH G a o n sv S) → va_S (fun q : Nat => s.heap.size ≤ q) s.heap H locs → lv_has ls 7 [(0, .ref b9), (1, .ref (a 0)), (2, .ref (bb 0)), (3, .ref o), (4, .int (nI i))] → W p l e room_1 s m #[Value.ref b9] below meth c H locs (cells + 200) (slots + 5000) Q (F0 m 3946 ls [])) : W p l e room_1 s m #[Value.ref b9] below meth c H locs (cells) (slots) Q (F0 m 2426 ls []) := by
  obtain ⟨C, hE, hN, hX, hbl, hl9, hL9, hA, hAB, hbA⟩ := Z
  have hx := C.1
  have hb := C.2.1
  have hml := C.2.2.1
  have hown := C.2.2.2.1
  have hw := C.2.2.2.2
  obtain ⟨hf0, hf1, hf2⟩ := lw_hf hf
  have hf3 := hf2
  obtain ⟨p0, hp0⟩ : ∃ y : Int32, xs (nI (i + 1)).toNatClampNeg = y := ⟨_, rfl⟩
  obtain ⟨p1, hp1⟩ : ∃ y : Int32, xs (nI (i + 2)).toNatClampNeg = y := ⟨_, rfl⟩
  obtain ⟨p2, hp2⟩ : ∃ y : Int32, xs (nI (i + 3)).toNatClampNeg = y := ⟨_, rfl⟩
  refine lv_aload_n hx hb dL_law_2426 rfl (lv_at hl 1 rfl) ?_
  refine lv_aload_n hx hb dL_law_2427 rfl (lv_at hl 0 rfl) ?_
  refine lv_iload hx hb dL_law_2428 (lv_at hl 4 rfl) ?_
  refine lv_iconst (v := (1 : Int32)) hx hb dL_law_2430 qi_1 ?_
  refine lv_iadd hx hb dL_law_2431 ?_
  refine k_foldi (y := (nI (i + 1))) (nI_add i 1) ?_
  refine va_sld hx hb hX hbl hbA hS (lw_in hi hL9 rfl) dL_law_2432 ?_
  refine k_foldi (y := p0) hp0 ?_
  refine lv_aload_n hx hb dL_law_2433 rfl (lv_at hl 0 rfl) ?_
  refine lv_iload hx hb dL_law_2434 (lv_at hl 4 rfl) ?_
  refine lv_iconst (v := (2 : Int32)) hx hb dL_law_2436 qi_2 ?_
  refine lv_iadd hx hb dL_law_2437 ?_
  refine k_foldi (y := (nI (i + 2))) (nI_add i 2) ?_
  refine va_sld hx hb hX hbl hbA hS (lw_in hi hL9 rfl) dL_law_2438 ?_
  refine k_foldi (y := p1) hp1 ?_
  refine lv_aload_n hx hb dL_law_2439 rfl (lv_at hl 0 rfl) ?_
  refine lv_iload hx hb dL_law_2440 (lv_at hl 4 rfl) ?_
  refine lv_iconst (v := (3 : Int32)) hx hb dL_law_2442 qi_3 ?_
  refine lv_iadd hx hb dL_law_2443 ?_
  refine k_foldi (y := (nI (i + 3))) (nI_add i 3) ?_
  refine va_sld hx hb hX hbl hbA hS (lw_in hi hL9 rfl) dL_law_2444 ?_
  refine k_foldi (y := p2) hp2 ?_
  refine lv_aload_n hx hb dL_law_2445 rfl (lv_at hl 3 rfl) ?_
  refine lwHelp (n := 5) (wr := (wM G bb T)) (wd := (wH G a o n sv S)) (as := [.ref (a 0), .int p0, .int p1, .int p2, .ref o]) (rest := []) C (k_minusNanos l hl9 G a o n sv S p0 p1 p2) bw663 bw56 (by decide +kernel) rfl bw661 bw662 hN (hE.S hS hAB) hP hD hS hA hAB hl.1 dL_law_2446 ⟨(Nat.le_of_ble_eq_true rfl), (Nat.le_of_ble_eq_true rfl)⟩ rfl (Nat.le_of_ble_eq_true rfl) hf1 (fun r9 wd9 H locs hp9 hP hD hS => ?_)
  obtain ⟨c9, n9, sv9, S9, rfl, rfl, h9⟩ := hp9
  refine W.eq (g2 := F0 m 2449 ls [.int c9]) rfl ?_
  refine lv_istore (lv' := [(5, .int c9), (0, .ref b9), (1, .ref (a 0)), (2, .ref (bb 0)), (3, .ref o), (4, .int (nI i))]) hx hb dL_law_2449 hl (Nat.le_of_ble_eq_true rfl) rfl (fun ls hl => ?_)
  refine lv_aload_n hx hb dL_law_2451 rfl (lv_at hl 3 rfl) ?_
  refine lv_aload_n hx hb dL_law_2452 rfl (lv_at hl 1 rfl) ?_
  refine lv_iload hx hb dL_law_2453 (lv_at hl 5 rfl) ?_
  refine lv_iconst (v := (1 : Int32)) hx hb dL_law_2455 qi_1 ?_
  refine lv_iadd hx hb dL_law_2456 ?_
  refine k_foldi (y := (nI (i + 1))) (nI_add i 1) ?_
  refine va_sld hx hb hX hbl hbA hS (lw_in hi hL9 rfl) dL_law_2457 ?_
  refine k_foldi (y := p0) hp0 ?_
  refine lv_aload_n hx hb dL_law_2458 rfl (lv_at hl 1 rfl) ?_
  refine lv_iload hx hb dL_law_2459 (lv_at hl 5 rfl) ?_
  refine lv_iconst (v := (2 : Int32)) hx hb dL_law_2461 qi_2 ?_
  refine lv_iadd hx hb dL_law_2462 ?_
  refine k_foldi (y := (nI (i + 2))) (nI_add i 2) ?_
  refine va_sld hx hb hX hbl hbA hS (lw_in hi hL9 rfl) dL_law_2463 ?_
  refine k_foldi (y := p1) hp1 ?_
  refine lv_aload_n hx hb dL_law_2464 rfl (lv_at hl 1 rfl) ?_
  refine lv_iload hx hb dL_law_2465 (lv_at hl 5 rfl) ?_
  refine lv_iconst (v := (3 : Int32)) hx hb dL_law_2467 qi_3 ?_
  refine lv_iadd hx hb dL_law_2468 ?_
  refine k_foldi (y := (nI (i + 3))) (nI_add i 3) ?_
  refine va_sld hx hb hX hbl hbA hS (lw_in hi hL9 rfl) dL_law_2469 ?_
  refine k_foldi (y := p2) hp2 ?_
  refine lwWR (MC := 170) (MS := 4200) (st1 := [.int ((gX2_minusNanos T p0 p1 p2).1)]) (wr := (wH G a o n9 sv9 S9)) (wd := (wM G bb T)) (as := [.int p0, .int p1, .int p2]) (rest := []) (cl := RX2) (Nat.le_of_ble_eq_true rfl) (Nat.le_of_ble_eq_true rfl) C (c_X2_minusNanos l G bb T p0 p1 p2 (Rel.mo hR)) F_X2_minusNanos rfl bw1435 bw1436 bw1437 (hE.S hS hAB) hP hD hS hA hAB (rv4 hE.K (P_tl (wr := (wH G a o n9 sv9 S9)) hP) (q0 := 0) rfl) hl.1 dL_law_2470 ⟨(Nat.le_of_ble_eq_true rfl), (Nat.le_of_ble_eq_true rfl)⟩ rfl (Nat.le_of_ble_eq_true rfl) hf2 rfl (fun H locs hP hD hS => ?_)
  have hc9 := cmp_minusNanos hR h9
  refine lv_istore (lv' := [(6, .int ((gX2_minusNanos T p0 p1 p2).1)), (5, .int c9), (0, .ref b9), (1, .ref (a 0)), (2, .ref (bb 0)), (3, .ref o), (4, .int (nI i))]) hx hb dL_law_2473 hl (Nat.le_of_ble_eq_true rfl) rfl (fun ls hl => ?_)
  refine lv_aload_n hx hb dL_law_2475 rfl (lv_at hl 4 rfl) ?_
  refine rcVf (st1 := [.int (fX2_thrown ((gX2_minusNanos T p0 p1 p2).2))]) (as := []) (rest := []) (cl := RX2) C (c_X2_thrown l G bb ((gX2_minusNanos T p0 p1 p2).2)) F_X2_thrown rfl bw1200 bw1201 (hw _ bw1202) (hE.S hS hAB) (P_hd hP) (rv4 hE.K (P_hd hP) (q0 := 0) rfl) hl.1 dL_law_2476 ⟨Nat.le_of_ble_eq_true rfl, Nat.le_of_ble_eq_true rfl⟩ rfl (Nat.le_of_ble_eq_true rfl) hf3 rfl ?_
  refine k_foldi (y := c9) hc9.1 ?_
  refine lv_iload hx hb dL_law_2479 (lv_at hl 1 rfl) ?_
  refine lv_icmp_eq (tgt := 2486) hx hb dL_law_2481 (by decide) (fun _ => ?_) (fun c_x => absurd rfl c_x)
  refine lv_iload hx hb dL_law_2486 (lv_at hl 1 rfl) ?_
  refine lv_if_ne (tgt := 2504) hx hb dL_law_2488 (by decide) (fun c_1 => ?_) (fun c_1 => ?_)
  · refine lv_goto (tgt := 3946) hx hb dL_law_2504 (by decide) ?_
    refine W.widen (k := cells + 200) (n := slots + 5000) (by first | exact Nat.le_of_eq (Nat.add_assoc _ _ _) | omega) (by first | exact Nat.le_of_eq (Nat.add_assoc _ _ _) | omega) ?_
    exact kk n9 sv9 S9 ((gX2_minusNanos T p0 p1 p2).2) _ _ ls (rel_minusNanos hR h9) hP hD hS (lv_sub hl [2, 3, 4, 5, 6] rfl)
  · refine lv_aload_n hx hb dL_law_2491 rfl (lv_at hl 5 rfl) ?_
    refine va_getN (D := gD G) (cl := vwCl) (tys := gT G) (ci := 3) (v := .long n9) (C := RX1) (T := TX1) (N := 2) hx hb hw inB_X1 hown hE.K hP 5 rfl rfl 0 (by decide) (va_Nw.use rfl hN.2.1) (fun _ h9 => h9) rfl dL_law_2492 ?_
    refine lv_iload hx hb dL_law_2495 (lv_at hl 0 rfl) ?_
    refine lv_i2l (v := (((gX2_minusNanos T p0 p1 p2).1).toInt64)) hx hb dL_law_2497 (by first | rfl | decide) ?_
    refine W.lcmp hx hb dL_law_2498 ?_
    refine lv_if_eq (tgt := 2504) hx hb dL_law_2499 (by decide) (fun _ => ?_) (fun c_x => absurd (lgc_eq.mpr (by rw [hc9.2 c_1])) c_x)
    refine lv_goto (tgt := 3946) hx hb dL_law_2504 (by decide) ?_
    refine W.widen (k := cells + 200) (n := slots + 5000) (by first | exact Nat.le_of_eq (Nat.add_assoc _ _ _) | omega) (by first | exact Nat.le_of_eq (Nat.add_assoc _ _ _) | omega) ?_
    exact kk n9 sv9 S9 ((gX2_minusNanos T p0 p1 p2).2) _ _ ls (rel_minusNanos hR h9) hP hD hS (lv_sub hl [2, 3, 4, 5, 6] rfl)

set_option maxRecDepth 100000 in
set_option maxHeartbeats 4000000 in
theorem case_plusUnits {p : Program} {l : Launch} {e : Env} {s : State} {m : MethodId} {below : List Frame} {meth : Method} {c : Code} {Q : State → Prop} {G : GT} {b9 L9 : Nat} {xs : Nat → Int32} {a bb : Nat → Nat} {o : Nat} (Z : LW p l s m meth c G b9 L9 xs) {i cells slots : Nat} (hi : i + 6 ≤ L9) (hf : cells + 200 ≤ room_1.cells ∧ slots + 5000 ≤ room_1.slots) {n : Int64} {sv : Value} {S : SX} {T : SM} (hR : Rel S T) {H : Heap} {locs : List Loc} {ls : Array Slot} (hP : va_P (gD G) vwCl (wM G bb T ++ wH G a o n sv S) H) (hD : va_D (fun q : Nat => s.heap.size ≤ q) (wM G bb T ++ wH G a o n sv S)) (hS : va_S (fun q : Nat => s.heap.size ≤ q) s.heap H locs) (hl : lv_has ls 7 [(0, .ref b9), (1, .ref (a 0)), (2, .ref (bb 0)), (3, .ref o), (4, .int (nI i))]) (kk : ∀ (n : Int64) (sv : Value) (S : SX) (T : SM) (H : Heap) (locs : List Loc) (ls : Array Slot), Rel S T → va_P (gD G) vwCl (wM G bb T ++ wH G a o n sv S) H → va_D (fun q : Nat => s.heap.size ≤ q) (wM G bb T ++ wH G a o n sv S) → va_S (fun q : Nat => s.heap.size ≤ q) s.heap H locs → lv_has ls 7 [(0, .ref b9), (1, .ref (a 0)), (2, .ref (bb 0)), (3, .ref o), (4, .int (nI i))] → W p l e room_1 s m #[Value.ref b9] below meth c H locs (cells + 200) (slots + 5000) Q (F0 m 3946 ls [])) : W p l e room_1 s m #[Value.ref b9] below meth c H locs (cells) (slots) Q (F0 m 2507 ls []) := by
  obtain ⟨C, hE, hN, hX, hbl, hl9, hL9, hA, hAB, hbA⟩ := Z
  have hx := C.1
  have hb := C.2.1
  have hml := C.2.2.1
  have hown := C.2.2.2.1
  have hw := C.2.2.2.2
  obtain ⟨hf0, hf1, hf2⟩ := lw_hf hf
  have hf3 := hf2
  obtain ⟨p0, hp0⟩ : ∃ y : Int32, xs (nI (i + 1)).toNatClampNeg = y := ⟨_, rfl⟩
  obtain ⟨p1, hp1⟩ : ∃ y : Int32, xs (nI (i + 2)).toNatClampNeg = y := ⟨_, rfl⟩
  obtain ⟨p2, hp2⟩ : ∃ y : Int32, xs (nI (i + 3)).toNatClampNeg = y := ⟨_, rfl⟩
  refine lv_aload_n hx hb dL_law_2507 rfl (lv_at hl 1 rfl) ?_
  refine lv_aload_n hx hb dL_law_2508 rfl (lv_at hl 0 rfl) ?_
  refine lv_iload hx hb dL_law_2509 (lv_at hl 4 rfl) ?_
  refine lv_iconst (v := (1 : Int32)) hx hb dL_law_2511 qi_1 ?_
  refine lv_iadd hx hb dL_law_2512 ?_
  refine k_foldi (y := (nI (i + 1))) (nI_add i 1) ?_
  refine va_sld hx hb hX hbl hbA hS (lw_in hi hL9 rfl) dL_law_2513 ?_
  refine k_foldi (y := p0) hp0 ?_
  refine lv_aload_n hx hb dL_law_2514 rfl (lv_at hl 0 rfl) ?_
  refine lv_iload hx hb dL_law_2515 (lv_at hl 4 rfl) ?_
  refine lv_iconst (v := (2 : Int32)) hx hb dL_law_2517 qi_2 ?_
  refine lv_iadd hx hb dL_law_2518 ?_
  refine k_foldi (y := (nI (i + 2))) (nI_add i 2) ?_
  refine va_sld hx hb hX hbl hbA hS (lw_in hi hL9 rfl) dL_law_2519 ?_
  refine k_foldi (y := p1) hp1 ?_
  refine lv_aload_n hx hb dL_law_2520 rfl (lv_at hl 0 rfl) ?_
  refine lv_iload hx hb dL_law_2521 (lv_at hl 4 rfl) ?_
  refine lv_iconst (v := (3 : Int32)) hx hb dL_law_2523 qi_3 ?_
  refine lv_iadd hx hb dL_law_2524 ?_
  refine k_foldi (y := (nI (i + 3))) (nI_add i 3) ?_
  refine va_sld hx hb hX hbl hbA hS (lw_in hi hL9 rfl) dL_law_2525 ?_
  refine k_foldi (y := p2) hp2 ?_
  refine lv_aload_n hx hb dL_law_2526 rfl (lv_at hl 3 rfl) ?_
  refine lwHelp (n := 5) (wr := (wM G bb T)) (wd := (wH G a o n sv S)) (as := [.ref (a 0), .int p0, .int p1, .int p2, .ref o]) (rest := []) C (k_plusUnits l hl9 G a o n sv S p0 p1 p2) bw670 bw56 (by decide +kernel) rfl bw668 bw669 hN (hE.S hS hAB) hP hD hS hA hAB hl.1 dL_law_2527 ⟨(Nat.le_of_ble_eq_true rfl), (Nat.le_of_ble_eq_true rfl)⟩ rfl (Nat.le_of_ble_eq_true rfl) hf1 (fun r9 wd9 H locs hp9 hP hD hS => ?_)
  obtain ⟨c9, n9, sv9, S9, rfl, rfl, h9⟩ := hp9
  refine W.eq (g2 := F0 m 2530 ls [.int c9]) rfl ?_
  refine lv_istore (lv' := [(5, .int c9), (0, .ref b9), (1, .ref (a 0)), (2, .ref (bb 0)), (3, .ref o), (4, .int (nI i))]) hx hb dL_law_2530 hl (Nat.le_of_ble_eq_true rfl) rfl (fun ls hl => ?_)
  refine lv_aload_n hx hb dL_law_2532 rfl (lv_at hl 3 rfl) ?_
  refine lv_aload_n hx hb dL_law_2533 rfl (lv_at hl 1 rfl) ?_
  refine lv_iload hx hb dL_law_2534 (lv_at hl 5 rfl) ?_
  refine lv_iconst (v := (1 : Int32)) hx hb dL_law_2536 qi_1 ?_
  refine lv_iadd hx hb dL_law_2537 ?_
  refine k_foldi (y := (nI (i + 1))) (nI_add i 1) ?_
  refine va_sld hx hb hX hbl hbA hS (lw_in hi hL9 rfl) dL_law_2538 ?_
  refine k_foldi (y := p0) hp0 ?_
  refine lv_aload_n hx hb dL_law_2539 rfl (lv_at hl 1 rfl) ?_
  refine lv_iload hx hb dL_law_2540 (lv_at hl 5 rfl) ?_
  refine lv_iconst (v := (2 : Int32)) hx hb dL_law_2542 qi_2 ?_
  refine lv_iadd hx hb dL_law_2543 ?_
  refine k_foldi (y := (nI (i + 2))) (nI_add i 2) ?_
  refine va_sld hx hb hX hbl hbA hS (lw_in hi hL9 rfl) dL_law_2544 ?_
  refine k_foldi (y := p1) hp1 ?_
  refine lv_aload_n hx hb dL_law_2545 rfl (lv_at hl 1 rfl) ?_
  refine lv_iload hx hb dL_law_2546 (lv_at hl 5 rfl) ?_
  refine lv_iconst (v := (3 : Int32)) hx hb dL_law_2548 qi_3 ?_
  refine lv_iadd hx hb dL_law_2549 ?_
  refine k_foldi (y := (nI (i + 3))) (nI_add i 3) ?_
  refine va_sld hx hb hX hbl hbA hS (lw_in hi hL9 rfl) dL_law_2550 ?_
  refine k_foldi (y := p2) hp2 ?_
  refine lwWR (MC := 170) (MS := 4200) (st1 := [.int ((gX2_plusUnits T p0 p1 p2).1)]) (wr := (wH G a o n9 sv9 S9)) (wd := (wM G bb T)) (as := [.int p0, .int p1, .int p2]) (rest := []) (cl := RX2) (Nat.le_of_ble_eq_true rfl) (Nat.le_of_ble_eq_true rfl) C (c_X2_plusUnits l G bb T p0 p1 p2 (Rel.mo hR)) F_X2_plusUnits rfl bw1439 bw1440 bw1441 (hE.S hS hAB) hP hD hS hA hAB (rv4 hE.K (P_tl (wr := (wH G a o n9 sv9 S9)) hP) (q0 := 0) rfl) hl.1 dL_law_2551 ⟨(Nat.le_of_ble_eq_true rfl), (Nat.le_of_ble_eq_true rfl)⟩ rfl (Nat.le_of_ble_eq_true rfl) hf2 rfl (fun H locs hP hD hS => ?_)
  have hc9 := cmp_plusUnits hR h9
  refine lv_istore (lv' := [(6, .int ((gX2_plusUnits T p0 p1 p2).1)), (5, .int c9), (0, .ref b9), (1, .ref (a 0)), (2, .ref (bb 0)), (3, .ref o), (4, .int (nI i))]) hx hb dL_law_2554 hl (Nat.le_of_ble_eq_true rfl) rfl (fun ls hl => ?_)
  refine lv_aload_n hx hb dL_law_2556 rfl (lv_at hl 4 rfl) ?_
  refine rcVf (st1 := [.int (fX2_thrown ((gX2_plusUnits T p0 p1 p2).2))]) (as := []) (rest := []) (cl := RX2) C (c_X2_thrown l G bb ((gX2_plusUnits T p0 p1 p2).2)) F_X2_thrown rfl bw1200 bw1201 (hw _ bw1202) (hE.S hS hAB) (P_hd hP) (rv4 hE.K (P_hd hP) (q0 := 0) rfl) hl.1 dL_law_2557 ⟨Nat.le_of_ble_eq_true rfl, Nat.le_of_ble_eq_true rfl⟩ rfl (Nat.le_of_ble_eq_true rfl) hf3 rfl ?_
  refine k_foldi (y := c9) hc9.1 ?_
  refine lv_iload hx hb dL_law_2560 (lv_at hl 1 rfl) ?_
  refine lv_icmp_eq (tgt := 2567) hx hb dL_law_2562 (by decide) (fun _ => ?_) (fun c_x => absurd rfl c_x)
  refine lv_iload hx hb dL_law_2567 (lv_at hl 1 rfl) ?_
  refine lv_if_ne (tgt := 2585) hx hb dL_law_2569 (by decide) (fun c_1 => ?_) (fun c_1 => ?_)
  · refine lv_goto (tgt := 3946) hx hb dL_law_2585 (by decide) ?_
    refine W.widen (k := cells + 200) (n := slots + 5000) (by first | exact Nat.le_of_eq (Nat.add_assoc _ _ _) | omega) (by first | exact Nat.le_of_eq (Nat.add_assoc _ _ _) | omega) ?_
    exact kk n9 sv9 S9 ((gX2_plusUnits T p0 p1 p2).2) _ _ ls (rel_plusUnits hR h9) hP hD hS (lv_sub hl [2, 3, 4, 5, 6] rfl)
  · refine lv_aload_n hx hb dL_law_2572 rfl (lv_at hl 5 rfl) ?_
    refine va_getN (D := gD G) (cl := vwCl) (tys := gT G) (ci := 3) (v := .long n9) (C := RX1) (T := TX1) (N := 2) hx hb hw inB_X1 hown hE.K hP 5 rfl rfl 0 (by decide) (va_Nw.use rfl hN.2.1) (fun _ h9 => h9) rfl dL_law_2573 ?_
    refine lv_iload hx hb dL_law_2576 (lv_at hl 0 rfl) ?_
    refine lv_i2l (v := (((gX2_plusUnits T p0 p1 p2).1).toInt64)) hx hb dL_law_2578 (by first | rfl | decide) ?_
    refine W.lcmp hx hb dL_law_2579 ?_
    refine lv_if_eq (tgt := 2585) hx hb dL_law_2580 (by decide) (fun _ => ?_) (fun c_x => absurd (lgc_eq.mpr (by rw [hc9.2 c_1])) c_x)
    refine lv_goto (tgt := 3946) hx hb dL_law_2585 (by decide) ?_
    refine W.widen (k := cells + 200) (n := slots + 5000) (by first | exact Nat.le_of_eq (Nat.add_assoc _ _ _) | omega) (by first | exact Nat.le_of_eq (Nat.add_assoc _ _ _) | omega) ?_
    exact kk n9 sv9 S9 ((gX2_plusUnits T p0 p1 p2).2) _ _ ls (rel_plusUnits hR h9) hP hD hS (lv_sub hl [2, 3, 4, 5, 6] rfl)

set_option maxRecDepth 100000 in
set_option maxHeartbeats 4000000 in
theorem case_year {p : Program} {l : Launch} {e : Env} {s : State} {m : MethodId} {below : List Frame} {meth : Method} {c : Code} {Q : State → Prop} {G : GT} {b9 L9 : Nat} {xs : Nat → Int32} {a bb : Nat → Nat} {o : Nat} (Z : LW p l s m meth c G b9 L9 xs) {i cells slots : Nat} (hi : i + 6 ≤ L9) (hf : cells + 200 ≤ room_1.cells ∧ slots + 5000 ≤ room_1.slots) {n : Int64} {sv : Value} {S : SX} {T : SM} (hR : Rel S T) {H : Heap} {locs : List Loc} {ls : Array Slot} (hP : va_P (gD G) vwCl (wM G bb T ++ wH G a o n sv S) H) (hD : va_D (fun q : Nat => s.heap.size ≤ q) (wM G bb T ++ wH G a o n sv S)) (hS : va_S (fun q : Nat => s.heap.size ≤ q) s.heap H locs) (hl : lv_has ls 7 [(0, .ref b9), (1, .ref (a 0)), (2, .ref (bb 0)), (3, .ref o), (4, .int (nI i))]) (kk : ∀ (n : Int64) (sv : Value) (S : SX) (T : SM) (H : Heap) (locs : List Loc) (ls : Array Slot), Rel S T → va_P (gD G) vwCl (wM G bb T ++ wH G a o n sv S) H → va_D (fun q : Nat => s.heap.size ≤ q) (wM G bb T ++ wH G a o n sv S) → va_S (fun q : Nat => s.heap.size ≤ q) s.heap H locs → lv_has ls 7 [(0, .ref b9), (1, .ref (a 0)), (2, .ref (bb 0)), (3, .ref o), (4, .int (nI i))] → W p l e room_1 s m #[Value.ref b9] below meth c H locs (cells + 200) (slots + 5000) Q (F0 m 3946 ls [])) : W p l e room_1 s m #[Value.ref b9] below meth c H locs (cells) (slots) Q (F0 m 2588 ls []) := by
  obtain ⟨C, hE, hN, hX, hbl, hl9, hL9, hA, hAB, hbA⟩ := Z
  have hx := C.1
  have hb := C.2.1
  have hml := C.2.2.1
  have hown := C.2.2.2.1
  have hw := C.2.2.2.2
  obtain ⟨hf0, hf1, hf2⟩ := lw_hf hf
  have hf3 := hf2
  obtain ⟨p0, hp0⟩ : ∃ y : Int32, xs (nI (i + 1)).toNatClampNeg = y := ⟨_, rfl⟩
  refine lv_aload_n hx hb dL_law_2588 rfl (lv_at hl 1 rfl) ?_
  refine lv_aload_n hx hb dL_law_2589 rfl (lv_at hl 0 rfl) ?_
  refine lv_iload hx hb dL_law_2590 (lv_at hl 4 rfl) ?_
  refine lv_iconst (v := (1 : Int32)) hx hb dL_law_2592 qi_1 ?_
  refine lv_iadd hx hb dL_law_2593 ?_
  refine k_foldi (y := (nI (i + 1))) (nI_add i 1) ?_
  refine va_sld hx hb hX hbl hbA hS (lw_in hi hL9 rfl) dL_law_2594 ?_
  refine k_foldi (y := p0) hp0 ?_
  refine lv_aload_n hx hb dL_law_2595 rfl (lv_at hl 3 rfl) ?_
  refine lwHelp (n := 3) (wr := (wM G bb T)) (wd := (wH G a o n sv S)) (as := [.ref (a 0), .int p0, .ref o]) (rest := []) C (k_year l hl9 G a o n sv S p0) bw685 bw56 (by decide +kernel) rfl bw683 bw684 hN (hE.S hS hAB) hP hD hS hA hAB hl.1 dL_law_2596 ⟨(Nat.le_of_ble_eq_true rfl), (Nat.le_of_ble_eq_true rfl)⟩ rfl (Nat.le_of_ble_eq_true rfl) hf1 (fun r9 wd9 H locs hp9 hP hD hS => ?_)
  obtain ⟨c9, n9, sv9, S9, rfl, rfl, h9⟩ := hp9
  refine W.eq (g2 := F0 m 2599 ls [.int c9]) rfl ?_
  refine lv_istore (lv' := [(5, .int c9), (0, .ref b9), (1, .ref (a 0)), (2, .ref (bb 0)), (3, .ref o), (4, .int (nI i))]) hx hb dL_law_2599 hl (Nat.le_of_ble_eq_true rfl) rfl (fun ls hl => ?_)
  refine lv_aload_n hx hb dL_law_2601 rfl (lv_at hl 3 rfl) ?_
  refine lv_aload_n hx hb dL_law_2602 rfl (lv_at hl 1 rfl) ?_
  refine lv_iload hx hb dL_law_2603 (lv_at hl 5 rfl) ?_
  refine lv_iconst (v := (1 : Int32)) hx hb dL_law_2605 qi_1 ?_
  refine lv_iadd hx hb dL_law_2606 ?_
  refine k_foldi (y := (nI (i + 1))) (nI_add i 1) ?_
  refine va_sld hx hb hX hbl hbA hS (lw_in hi hL9 rfl) dL_law_2607 ?_
  refine k_foldi (y := p0) hp0 ?_
  refine lwWR (MC := 170) (MS := 4200) (st1 := [.int ((gX2_year T p0).1)]) (wr := (wH G a o n9 sv9 S9)) (wd := (wM G bb T)) (as := [.int p0]) (rest := []) (cl := RX2) (Nat.le_of_ble_eq_true rfl) (Nat.le_of_ble_eq_true rfl) C (c_X2_year l G bb T p0 (Rel.mo hR)) F_X2_year rfl bw1448 bw1449 bw1450 (hE.S hS hAB) hP hD hS hA hAB (rv4 hE.K (P_tl (wr := (wH G a o n9 sv9 S9)) hP) (q0 := 0) rfl) hl.1 dL_law_2608 ⟨(Nat.le_of_ble_eq_true rfl), (Nat.le_of_ble_eq_true rfl)⟩ rfl (Nat.le_of_ble_eq_true rfl) hf2 rfl (fun H locs hP hD hS => ?_)
  have hc9 := cmp_year hR h9
  refine lv_istore (lv' := [(6, .int ((gX2_year T p0).1)), (5, .int c9), (0, .ref b9), (1, .ref (a 0)), (2, .ref (bb 0)), (3, .ref o), (4, .int (nI i))]) hx hb dL_law_2611 hl (Nat.le_of_ble_eq_true rfl) rfl (fun ls hl => ?_)
  refine lv_aload_n hx hb dL_law_2613 rfl (lv_at hl 4 rfl) ?_
  refine rcVf (st1 := [.int (fX2_thrown ((gX2_year T p0).2))]) (as := []) (rest := []) (cl := RX2) C (c_X2_thrown l G bb ((gX2_year T p0).2)) F_X2_thrown rfl bw1200 bw1201 (hw _ bw1202) (hE.S hS hAB) (P_hd hP) (rv4 hE.K (P_hd hP) (q0 := 0) rfl) hl.1 dL_law_2614 ⟨Nat.le_of_ble_eq_true rfl, Nat.le_of_ble_eq_true rfl⟩ rfl (Nat.le_of_ble_eq_true rfl) hf3 rfl ?_
  refine k_foldi (y := c9) hc9.1 ?_
  refine lv_iload hx hb dL_law_2617 (lv_at hl 1 rfl) ?_
  refine lv_icmp_eq (tgt := 2624) hx hb dL_law_2619 (by decide) (fun _ => ?_) (fun c_x => absurd rfl c_x)
  refine lv_iload hx hb dL_law_2624 (lv_at hl 1 rfl) ?_
  refine lv_if_ne (tgt := 2642) hx hb dL_law_2626 (by decide) (fun c_1 => ?_) (fun c_1 => ?_)
  · refine lv_goto (tgt := 3946) hx hb dL_law_2642 (by decide) ?_
    refine W.widen (k := cells + 200) (n := slots + 5000) (by first | exact Nat.le_of_eq (Nat.add_assoc _ _ _) | omega) (by first | exact Nat.le_of_eq (Nat.add_assoc _ _ _) | omega) ?_
    exact kk n9 sv9 S9 ((gX2_year T p0).2) _ _ ls (rel_year hR h9) hP hD hS (lv_sub hl [2, 3, 4, 5, 6] rfl)
  · refine lv_aload_n hx hb dL_law_2629 rfl (lv_at hl 5 rfl) ?_
    refine va_getN (D := gD G) (cl := vwCl) (tys := gT G) (ci := 3) (v := .long n9) (C := RX1) (T := TX1) (N := 2) hx hb hw inB_X1 hown hE.K hP 5 rfl rfl 0 (by decide) (va_Nw.use rfl hN.2.1) (fun _ h9 => h9) rfl dL_law_2630 ?_
    refine lv_iload hx hb dL_law_2633 (lv_at hl 0 rfl) ?_
    refine lv_i2l (v := (((gX2_year T p0).1).toInt64)) hx hb dL_law_2635 (by first | rfl | decide) ?_
    refine W.lcmp hx hb dL_law_2636 ?_
    refine lv_if_eq (tgt := 2642) hx hb dL_law_2637 (by decide) (fun _ => ?_) (fun c_x => absurd (lgc_eq.mpr (by rw [hc9.2 c_1])) c_x)
    refine lv_goto (tgt := 3946) hx hb dL_law_2642 (by decide) ?_
    refine W.widen (k := cells + 200) (n := slots + 5000) (by first | exact Nat.le_of_eq (Nat.add_assoc _ _ _) | omega) (by first | exact Nat.le_of_eq (Nat.add_assoc _ _ _) | omega) ?_
    exact kk n9 sv9 S9 ((gX2_year T p0).2) _ _ ls (rel_year hR h9) hP hD hS (lv_sub hl [2, 3, 4, 5, 6] rfl)

set_option maxRecDepth 100000 in
set_option maxHeartbeats 4000000 in
theorem case_month {p : Program} {l : Launch} {e : Env} {s : State} {m : MethodId} {below : List Frame} {meth : Method} {c : Code} {Q : State → Prop} {G : GT} {b9 L9 : Nat} {xs : Nat → Int32} {a bb : Nat → Nat} {o : Nat} (Z : LW p l s m meth c G b9 L9 xs) {i cells slots : Nat} (hi : i + 6 ≤ L9) (hf : cells + 200 ≤ room_1.cells ∧ slots + 5000 ≤ room_1.slots) {n : Int64} {sv : Value} {S : SX} {T : SM} (hR : Rel S T) {H : Heap} {locs : List Loc} {ls : Array Slot} (hP : va_P (gD G) vwCl (wM G bb T ++ wH G a o n sv S) H) (hD : va_D (fun q : Nat => s.heap.size ≤ q) (wM G bb T ++ wH G a o n sv S)) (hS : va_S (fun q : Nat => s.heap.size ≤ q) s.heap H locs) (hl : lv_has ls 7 [(0, .ref b9), (1, .ref (a 0)), (2, .ref (bb 0)), (3, .ref o), (4, .int (nI i))]) (kk : ∀ (n : Int64) (sv : Value) (S : SX) (T : SM) (H : Heap) (locs : List Loc) (ls : Array Slot), Rel S T → va_P (gD G) vwCl (wM G bb T ++ wH G a o n sv S) H → va_D (fun q : Nat => s.heap.size ≤ q) (wM G bb T ++ wH G a o n sv S) → va_S (fun q : Nat => s.heap.size ≤ q) s.heap H locs → lv_has ls 7 [(0, .ref b9), (1, .ref (a 0)), (2, .ref (bb 0)), (3, .ref o), (4, .int (nI i))] → W p l e room_1 s m #[Value.ref b9] below meth c H locs (cells + 200) (slots + 5000) Q (F0 m 3946 ls [])) : W p l e room_1 s m #[Value.ref b9] below meth c H locs (cells) (slots) Q (F0 m 2645 ls []) := by
  obtain ⟨C, hE, hN, hX, hbl, hl9, hL9, hA, hAB, hbA⟩ := Z
  have hx := C.1
  have hb := C.2.1
  have hml := C.2.2.1
  have hown := C.2.2.2.1
  have hw := C.2.2.2.2
  obtain ⟨hf0, hf1, hf2⟩ := lw_hf hf
  have hf3 := hf2
  obtain ⟨p0, hp0⟩ : ∃ y : Int32, xs (nI (i + 1)).toNatClampNeg = y := ⟨_, rfl⟩
  refine lv_aload_n hx hb dL_law_2645 rfl (lv_at hl 1 rfl) ?_
  refine lv_aload_n hx hb dL_law_2646 rfl (lv_at hl 0 rfl) ?_
  refine lv_iload hx hb dL_law_2647 (lv_at hl 4 rfl) ?_
  refine lv_iconst (v := (1 : Int32)) hx hb dL_law_2649 qi_1 ?_
  refine lv_iadd hx hb dL_law_2650 ?_
  refine k_foldi (y := (nI (i + 1))) (nI_add i 1) ?_
  refine va_sld hx hb hX hbl hbA hS (lw_in hi hL9 rfl) dL_law_2651 ?_
  refine k_foldi (y := p0) hp0 ?_
  refine lv_aload_n hx hb dL_law_2652 rfl (lv_at hl 3 rfl) ?_
  refine lwHelp (n := 3) (wr := (wM G bb T)) (wd := (wH G a o n sv S)) (as := [.ref (a 0), .int p0, .ref o]) (rest := []) C (k_month l hl9 G a o n sv S p0) bw692 bw56 (by decide +kernel) rfl bw690 bw691 hN (hE.S hS hAB) hP hD hS hA hAB hl.1 dL_law_2653 ⟨(Nat.le_of_ble_eq_true rfl), (Nat.le_of_ble_eq_true rfl)⟩ rfl (Nat.le_of_ble_eq_true rfl) hf1 (fun r9 wd9 H locs hp9 hP hD hS => ?_)
  obtain ⟨c9, n9, sv9, S9, rfl, rfl, h9⟩ := hp9
  refine W.eq (g2 := F0 m 2656 ls [.int c9]) rfl ?_
  refine lv_istore (lv' := [(5, .int c9), (0, .ref b9), (1, .ref (a 0)), (2, .ref (bb 0)), (3, .ref o), (4, .int (nI i))]) hx hb dL_law_2656 hl (Nat.le_of_ble_eq_true rfl) rfl (fun ls hl => ?_)
  refine lv_aload_n hx hb dL_law_2658 rfl (lv_at hl 3 rfl) ?_
  refine lv_aload_n hx hb dL_law_2659 rfl (lv_at hl 1 rfl) ?_
  refine lv_iload hx hb dL_law_2660 (lv_at hl 5 rfl) ?_
  refine lv_iconst (v := (1 : Int32)) hx hb dL_law_2662 qi_1 ?_
  refine lv_iadd hx hb dL_law_2663 ?_
  refine k_foldi (y := (nI (i + 1))) (nI_add i 1) ?_
  refine va_sld hx hb hX hbl hbA hS (lw_in hi hL9 rfl) dL_law_2664 ?_
  refine k_foldi (y := p0) hp0 ?_
  refine lwWR (MC := 170) (MS := 4200) (st1 := [.int ((gX2_month T p0).1)]) (wr := (wH G a o n9 sv9 S9)) (wd := (wM G bb T)) (as := [.int p0]) (rest := []) (cl := RX2) (Nat.le_of_ble_eq_true rfl) (Nat.le_of_ble_eq_true rfl) C (c_X2_month l G bb T p0 (Rel.mo hR)) F_X2_month rfl bw1452 bw1453 bw1454 (hE.S hS hAB) hP hD hS hA hAB (rv4 hE.K (P_tl (wr := (wH G a o n9 sv9 S9)) hP) (q0 := 0) rfl) hl.1 dL_law_2665 ⟨(Nat.le_of_ble_eq_true rfl), (Nat.le_of_ble_eq_true rfl)⟩ rfl (Nat.le_of_ble_eq_true rfl) hf2 rfl (fun H locs hP hD hS => ?_)
  have hc9 := cmp_month hR h9
  refine lv_istore (lv' := [(6, .int ((gX2_month T p0).1)), (5, .int c9), (0, .ref b9), (1, .ref (a 0)), (2, .ref (bb 0)), (3, .ref o), (4, .int (nI i))]) hx hb dL_law_2668 hl (Nat.le_of_ble_eq_true rfl) rfl (fun ls hl => ?_)
  refine lv_aload_n hx hb dL_law_2670 rfl (lv_at hl 4 rfl) ?_
  refine rcVf (st1 := [.int (fX2_thrown ((gX2_month T p0).2))]) (as := []) (rest := []) (cl := RX2) C (c_X2_thrown l G bb ((gX2_month T p0).2)) F_X2_thrown rfl bw1200 bw1201 (hw _ bw1202) (hE.S hS hAB) (P_hd hP) (rv4 hE.K (P_hd hP) (q0 := 0) rfl) hl.1 dL_law_2671 ⟨Nat.le_of_ble_eq_true rfl, Nat.le_of_ble_eq_true rfl⟩ rfl (Nat.le_of_ble_eq_true rfl) hf3 rfl ?_
  refine k_foldi (y := c9) hc9.1 ?_
  refine lv_iload hx hb dL_law_2674 (lv_at hl 1 rfl) ?_
  refine lv_icmp_eq (tgt := 2681) hx hb dL_law_2676 (by decide) (fun _ => ?_) (fun c_x => absurd rfl c_x)
  refine lv_iload hx hb dL_law_2681 (lv_at hl 1 rfl) ?_
  refine lv_if_ne (tgt := 2699) hx hb dL_law_2683 (by decide) (fun c_1 => ?_) (fun c_1 => ?_)
  · refine lv_goto (tgt := 3946) hx hb dL_law_2699 (by decide) ?_
    refine W.widen (k := cells + 200) (n := slots + 5000) (by first | exact Nat.le_of_eq (Nat.add_assoc _ _ _) | omega) (by first | exact Nat.le_of_eq (Nat.add_assoc _ _ _) | omega) ?_
    exact kk n9 sv9 S9 ((gX2_month T p0).2) _ _ ls (rel_month hR h9) hP hD hS (lv_sub hl [2, 3, 4, 5, 6] rfl)
  · refine lv_aload_n hx hb dL_law_2686 rfl (lv_at hl 5 rfl) ?_
    refine va_getN (D := gD G) (cl := vwCl) (tys := gT G) (ci := 3) (v := .long n9) (C := RX1) (T := TX1) (N := 2) hx hb hw inB_X1 hown hE.K hP 5 rfl rfl 0 (by decide) (va_Nw.use rfl hN.2.1) (fun _ h9 => h9) rfl dL_law_2687 ?_
    refine lv_iload hx hb dL_law_2690 (lv_at hl 0 rfl) ?_
    refine lv_i2l (v := (((gX2_month T p0).1).toInt64)) hx hb dL_law_2692 (by first | rfl | decide) ?_
    refine W.lcmp hx hb dL_law_2693 ?_
    refine lv_if_eq (tgt := 2699) hx hb dL_law_2694 (by decide) (fun _ => ?_) (fun c_x => absurd (lgc_eq.mpr (by rw [hc9.2 c_1])) c_x)
    refine lv_goto (tgt := 3946) hx hb dL_law_2699 (by decide) ?_
    refine W.widen (k := cells + 200) (n := slots + 5000) (by first | exact Nat.le_of_eq (Nat.add_assoc _ _ _) | omega) (by first | exact Nat.le_of_eq (Nat.add_assoc _ _ _) | omega) ?_
    exact kk n9 sv9 S9 ((gX2_month T p0).2) _ _ ls (rel_month hR h9) hP hD hS (lv_sub hl [2, 3, 4, 5, 6] rfl)

set_option maxRecDepth 100000 in
set_option maxHeartbeats 4000000 in
theorem case_dayOfMonth {p : Program} {l : Launch} {e : Env} {s : State} {m : MethodId} {below : List Frame} {meth : Method} {c : Code} {Q : State → Prop} {G : GT} {b9 L9 : Nat} {xs : Nat → Int32} {a bb : Nat → Nat} {o : Nat} (Z : LW p l s m meth c G b9 L9 xs) {i cells slots : Nat} (hi : i + 6 ≤ L9) (hf : cells + 200 ≤ room_1.cells ∧ slots + 5000 ≤ room_1.slots) {n : Int64} {sv : Value} {S : SX} {T : SM} (hR : Rel S T) {H : Heap} {locs : List Loc} {ls : Array Slot} (hP : va_P (gD G) vwCl (wM G bb T ++ wH G a o n sv S) H) (hD : va_D (fun q : Nat => s.heap.size ≤ q) (wM G bb T ++ wH G a o n sv S)) (hS : va_S (fun q : Nat => s.heap.size ≤ q) s.heap H locs) (hl : lv_has ls 7 [(0, .ref b9), (1, .ref (a 0)), (2, .ref (bb 0)), (3, .ref o), (4, .int (nI i))]) (kk : ∀ (n : Int64) (sv : Value) (S : SX) (T : SM) (H : Heap) (locs : List Loc) (ls : Array Slot), Rel S T → va_P (gD G) vwCl (wM G bb T ++ wH G a o n sv S) H → va_D (fun q : Nat => s.heap.size ≤ q) (wM G bb T ++ wH G a o n sv S) → va_S (fun q : Nat => s.heap.size ≤ q) s.heap H locs → lv_has ls 7 [(0, .ref b9), (1, .ref (a 0)), (2, .ref (bb 0)), (3, .ref o), (4, .int (nI i))] → W p l e room_1 s m #[Value.ref b9] below meth c H locs (cells + 200) (slots + 5000) Q (F0 m 3946 ls [])) : W p l e room_1 s m #[Value.ref b9] below meth c H locs (cells) (slots) Q (F0 m 2702 ls []) := by
  obtain ⟨C, hE, hN, hX, hbl, hl9, hL9, hA, hAB, hbA⟩ := Z
  have hx := C.1
  have hb := C.2.1
  have hml := C.2.2.1
  have hown := C.2.2.2.1
  have hw := C.2.2.2.2
  obtain ⟨hf0, hf1, hf2⟩ := lw_hf hf
  have hf3 := hf2
  obtain ⟨p0, hp0⟩ : ∃ y : Int32, xs (nI (i + 1)).toNatClampNeg = y := ⟨_, rfl⟩
  refine lv_aload_n hx hb dL_law_2702 rfl (lv_at hl 1 rfl) ?_
  refine lv_aload_n hx hb dL_law_2703 rfl (lv_at hl 0 rfl) ?_
  refine lv_iload hx hb dL_law_2704 (lv_at hl 4 rfl) ?_
  refine lv_iconst (v := (1 : Int32)) hx hb dL_law_2706 qi_1 ?_
  refine lv_iadd hx hb dL_law_2707 ?_
  refine k_foldi (y := (nI (i + 1))) (nI_add i 1) ?_
  refine va_sld hx hb hX hbl hbA hS (lw_in hi hL9 rfl) dL_law_2708 ?_
  refine k_foldi (y := p0) hp0 ?_
  refine lv_aload_n hx hb dL_law_2709 rfl (lv_at hl 3 rfl) ?_
  refine lwHelp (n := 3) (wr := (wM G bb T)) (wd := (wH G a o n sv S)) (as := [.ref (a 0), .int p0, .ref o]) (rest := []) C (k_dayOfMonth l hl9 G a o n sv S p0) bw699 bw56 (by decide +kernel) rfl bw697 bw698 hN (hE.S hS hAB) hP hD hS hA hAB hl.1 dL_law_2710 ⟨(Nat.le_of_ble_eq_true rfl), (Nat.le_of_ble_eq_true rfl)⟩ rfl (Nat.le_of_ble_eq_true rfl) hf1 (fun r9 wd9 H locs hp9 hP hD hS => ?_)
  obtain ⟨c9, n9, sv9, S9, rfl, rfl, h9⟩ := hp9
  refine W.eq (g2 := F0 m 2713 ls [.int c9]) rfl ?_
  refine lv_istore (lv' := [(5, .int c9), (0, .ref b9), (1, .ref (a 0)), (2, .ref (bb 0)), (3, .ref o), (4, .int (nI i))]) hx hb dL_law_2713 hl (Nat.le_of_ble_eq_true rfl) rfl (fun ls hl => ?_)
  refine lv_aload_n hx hb dL_law_2715 rfl (lv_at hl 3 rfl) ?_
  refine lv_aload_n hx hb dL_law_2716 rfl (lv_at hl 1 rfl) ?_
  refine lv_iload hx hb dL_law_2717 (lv_at hl 5 rfl) ?_
  refine lv_iconst (v := (1 : Int32)) hx hb dL_law_2719 qi_1 ?_
  refine lv_iadd hx hb dL_law_2720 ?_
  refine k_foldi (y := (nI (i + 1))) (nI_add i 1) ?_
  refine va_sld hx hb hX hbl hbA hS (lw_in hi hL9 rfl) dL_law_2721 ?_
  refine k_foldi (y := p0) hp0 ?_
  refine lwWR (MC := 170) (MS := 4200) (st1 := [.int ((gX2_dayOfMonth T p0).1)]) (wr := (wH G a o n9 sv9 S9)) (wd := (wM G bb T)) (as := [.int p0]) (rest := []) (cl := RX2) (Nat.le_of_ble_eq_true rfl) (Nat.le_of_ble_eq_true rfl) C (c_X2_dayOfMonth l G bb T p0 (Rel.mo hR)) F_X2_dayOfMonth rfl bw1456 bw1457 bw1458 (hE.S hS hAB) hP hD hS hA hAB (rv4 hE.K (P_tl (wr := (wH G a o n9 sv9 S9)) hP) (q0 := 0) rfl) hl.1 dL_law_2722 ⟨(Nat.le_of_ble_eq_true rfl), (Nat.le_of_ble_eq_true rfl)⟩ rfl (Nat.le_of_ble_eq_true rfl) hf2 rfl (fun H locs hP hD hS => ?_)
  have hc9 := cmp_dayOfMonth hR h9
  refine lv_istore (lv' := [(6, .int ((gX2_dayOfMonth T p0).1)), (5, .int c9), (0, .ref b9), (1, .ref (a 0)), (2, .ref (bb 0)), (3, .ref o), (4, .int (nI i))]) hx hb dL_law_2725 hl (Nat.le_of_ble_eq_true rfl) rfl (fun ls hl => ?_)
  refine lv_aload_n hx hb dL_law_2727 rfl (lv_at hl 4 rfl) ?_
  refine rcVf (st1 := [.int (fX2_thrown ((gX2_dayOfMonth T p0).2))]) (as := []) (rest := []) (cl := RX2) C (c_X2_thrown l G bb ((gX2_dayOfMonth T p0).2)) F_X2_thrown rfl bw1200 bw1201 (hw _ bw1202) (hE.S hS hAB) (P_hd hP) (rv4 hE.K (P_hd hP) (q0 := 0) rfl) hl.1 dL_law_2728 ⟨Nat.le_of_ble_eq_true rfl, Nat.le_of_ble_eq_true rfl⟩ rfl (Nat.le_of_ble_eq_true rfl) hf3 rfl ?_
  refine k_foldi (y := c9) hc9.1 ?_
  refine lv_iload hx hb dL_law_2731 (lv_at hl 1 rfl) ?_
  refine lv_icmp_eq (tgt := 2738) hx hb dL_law_2733 (by decide) (fun _ => ?_) (fun c_x => absurd rfl c_x)
  refine lv_iload hx hb dL_law_2738 (lv_at hl 1 rfl) ?_
  refine lv_if_ne (tgt := 2756) hx hb dL_law_2740 (by decide) (fun c_1 => ?_) (fun c_1 => ?_)
  · refine lv_goto (tgt := 3946) hx hb dL_law_2756 (by decide) ?_
    refine W.widen (k := cells + 200) (n := slots + 5000) (by first | exact Nat.le_of_eq (Nat.add_assoc _ _ _) | omega) (by first | exact Nat.le_of_eq (Nat.add_assoc _ _ _) | omega) ?_
    exact kk n9 sv9 S9 ((gX2_dayOfMonth T p0).2) _ _ ls (rel_dayOfMonth hR h9) hP hD hS (lv_sub hl [2, 3, 4, 5, 6] rfl)
  · refine lv_aload_n hx hb dL_law_2743 rfl (lv_at hl 5 rfl) ?_
    refine va_getN (D := gD G) (cl := vwCl) (tys := gT G) (ci := 3) (v := .long n9) (C := RX1) (T := TX1) (N := 2) hx hb hw inB_X1 hown hE.K hP 5 rfl rfl 0 (by decide) (va_Nw.use rfl hN.2.1) (fun _ h9 => h9) rfl dL_law_2744 ?_
    refine lv_iload hx hb dL_law_2747 (lv_at hl 0 rfl) ?_
    refine lv_i2l (v := (((gX2_dayOfMonth T p0).1).toInt64)) hx hb dL_law_2749 (by first | rfl | decide) ?_
    refine W.lcmp hx hb dL_law_2750 ?_
    refine lv_if_eq (tgt := 2756) hx hb dL_law_2751 (by decide) (fun _ => ?_) (fun c_x => absurd (lgc_eq.mpr (by rw [hc9.2 c_1])) c_x)
    refine lv_goto (tgt := 3946) hx hb dL_law_2756 (by decide) ?_
    refine W.widen (k := cells + 200) (n := slots + 5000) (by first | exact Nat.le_of_eq (Nat.add_assoc _ _ _) | omega) (by first | exact Nat.le_of_eq (Nat.add_assoc _ _ _) | omega) ?_
    exact kk n9 sv9 S9 ((gX2_dayOfMonth T p0).2) _ _ ls (rel_dayOfMonth hR h9) hP hD hS (lv_sub hl [2, 3, 4, 5, 6] rfl)

set_option maxRecDepth 100000 in
set_option maxHeartbeats 4000000 in
theorem case_dayOfYear {p : Program} {l : Launch} {e : Env} {s : State} {m : MethodId} {below : List Frame} {meth : Method} {c : Code} {Q : State → Prop} {G : GT} {b9 L9 : Nat} {xs : Nat → Int32} {a bb : Nat → Nat} {o : Nat} (Z : LW p l s m meth c G b9 L9 xs) {i cells slots : Nat} (hi : i + 6 ≤ L9) (hf : cells + 200 ≤ room_1.cells ∧ slots + 5000 ≤ room_1.slots) {n : Int64} {sv : Value} {S : SX} {T : SM} (hR : Rel S T) {H : Heap} {locs : List Loc} {ls : Array Slot} (hP : va_P (gD G) vwCl (wM G bb T ++ wH G a o n sv S) H) (hD : va_D (fun q : Nat => s.heap.size ≤ q) (wM G bb T ++ wH G a o n sv S)) (hS : va_S (fun q : Nat => s.heap.size ≤ q) s.heap H locs) (hl : lv_has ls 7 [(0, .ref b9), (1, .ref (a 0)), (2, .ref (bb 0)), (3, .ref o), (4, .int (nI i))]) (kk : ∀ (n : Int64) (sv : Value) (S : SX) (T : SM) (H : Heap) (locs : List Loc) (ls : Array Slot), Rel S T → va_P (gD G) vwCl (wM G bb T ++ wH G a o n sv S) H → va_D (fun q : Nat => s.heap.size ≤ q) (wM G bb T ++ wH G a o n sv S) → va_S (fun q : Nat => s.heap.size ≤ q) s.heap H locs → lv_has ls 7 [(0, .ref b9), (1, .ref (a 0)), (2, .ref (bb 0)), (3, .ref o), (4, .int (nI i))] → W p l e room_1 s m #[Value.ref b9] below meth c H locs (cells + 200) (slots + 5000) Q (F0 m 3946 ls [])) : W p l e room_1 s m #[Value.ref b9] below meth c H locs (cells) (slots) Q (F0 m 2759 ls []) := by
  obtain ⟨C, hE, hN, hX, hbl, hl9, hL9, hA, hAB, hbA⟩ := Z
  have hx := C.1
  have hb := C.2.1
  have hml := C.2.2.1
  have hown := C.2.2.2.1
  have hw := C.2.2.2.2
  obtain ⟨hf0, hf1, hf2⟩ := lw_hf hf
  have hf3 := hf2
  obtain ⟨p0, hp0⟩ : ∃ y : Int32, xs (nI (i + 1)).toNatClampNeg = y := ⟨_, rfl⟩
  refine lv_aload_n hx hb dL_law_2759 rfl (lv_at hl 1 rfl) ?_
  refine lv_aload_n hx hb dL_law_2760 rfl (lv_at hl 0 rfl) ?_
  refine lv_iload hx hb dL_law_2761 (lv_at hl 4 rfl) ?_
  refine lv_iconst (v := (1 : Int32)) hx hb dL_law_2763 qi_1 ?_
  refine lv_iadd hx hb dL_law_2764 ?_
  refine k_foldi (y := (nI (i + 1))) (nI_add i 1) ?_
  refine va_sld hx hb hX hbl hbA hS (lw_in hi hL9 rfl) dL_law_2765 ?_
  refine k_foldi (y := p0) hp0 ?_
  refine lv_aload_n hx hb dL_law_2766 rfl (lv_at hl 3 rfl) ?_
  refine lwHelp (n := 3) (wr := (wM G bb T)) (wd := (wH G a o n sv S)) (as := [.ref (a 0), .int p0, .ref o]) (rest := []) C (k_dayOfYear l hl9 G a o n sv S p0) bw706 bw56 (by decide +kernel) rfl bw704 bw705 hN (hE.S hS hAB) hP hD hS hA hAB hl.1 dL_law_2767 ⟨(Nat.le_of_ble_eq_true rfl), (Nat.le_of_ble_eq_true rfl)⟩ rfl (Nat.le_of_ble_eq_true rfl) hf1 (fun r9 wd9 H locs hp9 hP hD hS => ?_)
  obtain ⟨c9, n9, sv9, S9, rfl, rfl, h9⟩ := hp9
  refine W.eq (g2 := F0 m 2770 ls [.int c9]) rfl ?_
  refine lv_istore (lv' := [(5, .int c9), (0, .ref b9), (1, .ref (a 0)), (2, .ref (bb 0)), (3, .ref o), (4, .int (nI i))]) hx hb dL_law_2770 hl (Nat.le_of_ble_eq_true rfl) rfl (fun ls hl => ?_)
  refine lv_aload_n hx hb dL_law_2772 rfl (lv_at hl 3 rfl) ?_
  refine lv_aload_n hx hb dL_law_2773 rfl (lv_at hl 1 rfl) ?_
  refine lv_iload hx hb dL_law_2774 (lv_at hl 5 rfl) ?_
  refine lv_iconst (v := (1 : Int32)) hx hb dL_law_2776 qi_1 ?_
  refine lv_iadd hx hb dL_law_2777 ?_
  refine k_foldi (y := (nI (i + 1))) (nI_add i 1) ?_
  refine va_sld hx hb hX hbl hbA hS (lw_in hi hL9 rfl) dL_law_2778 ?_
  refine k_foldi (y := p0) hp0 ?_
  refine lwWR (MC := 170) (MS := 4200) (st1 := [.int ((gX2_dayOfYear T p0).1)]) (wr := (wH G a o n9 sv9 S9)) (wd := (wM G bb T)) (as := [.int p0]) (rest := []) (cl := RX2) (Nat.le_of_ble_eq_true rfl) (Nat.le_of_ble_eq_true rfl) C (c_X2_dayOfYear l G bb T p0 (Rel.mo hR)) F_X2_dayOfYear rfl bw1460 bw1461 bw1462 (hE.S hS hAB) hP hD hS hA hAB (rv4 hE.K (P_tl (wr := (wH G a o n9 sv9 S9)) hP) (q0 := 0) rfl) hl.1 dL_law_2779 ⟨(Nat.le_of_ble_eq_true rfl), (Nat.le_of_ble_eq_true rfl)⟩ rfl (Nat.le_of_ble_eq_true rfl) hf2 rfl (fun H locs hP hD hS => ?_)
  have hc9 := cmp_dayOfYear hR h9
  refine lv_istore (lv' := [(6, .int ((gX2_dayOfYear T p0).1)), (5, .int c9), (0, .ref b9), (1, .ref (a 0)), (2, .ref (bb 0)), (3, .ref o), (4, .int (nI i))]) hx hb dL_law_2782 hl (Nat.le_of_ble_eq_true rfl) rfl (fun ls hl => ?_)
  refine lv_aload_n hx hb dL_law_2784 rfl (lv_at hl 4 rfl) ?_
  refine rcVf (st1 := [.int (fX2_thrown ((gX2_dayOfYear T p0).2))]) (as := []) (rest := []) (cl := RX2) C (c_X2_thrown l G bb ((gX2_dayOfYear T p0).2)) F_X2_thrown rfl bw1200 bw1201 (hw _ bw1202) (hE.S hS hAB) (P_hd hP) (rv4 hE.K (P_hd hP) (q0 := 0) rfl) hl.1 dL_law_2785 ⟨Nat.le_of_ble_eq_true rfl, Nat.le_of_ble_eq_true rfl⟩ rfl (Nat.le_of_ble_eq_true rfl) hf3 rfl ?_
  refine k_foldi (y := c9) hc9.1 ?_
  refine lv_iload hx hb dL_law_2788 (lv_at hl 1 rfl) ?_
  refine lv_icmp_eq (tgt := 2795) hx hb dL_law_2790 (by decide) (fun _ => ?_) (fun c_x => absurd rfl c_x)
  refine lv_iload hx hb dL_law_2795 (lv_at hl 1 rfl) ?_
  refine lv_if_ne (tgt := 2813) hx hb dL_law_2797 (by decide) (fun c_1 => ?_) (fun c_1 => ?_)
  · refine lv_goto (tgt := 3946) hx hb dL_law_2813 (by decide) ?_
    refine W.widen (k := cells + 200) (n := slots + 5000) (by first | exact Nat.le_of_eq (Nat.add_assoc _ _ _) | omega) (by first | exact Nat.le_of_eq (Nat.add_assoc _ _ _) | omega) ?_
    exact kk n9 sv9 S9 ((gX2_dayOfYear T p0).2) _ _ ls (rel_dayOfYear hR h9) hP hD hS (lv_sub hl [2, 3, 4, 5, 6] rfl)
  · refine lv_aload_n hx hb dL_law_2800 rfl (lv_at hl 5 rfl) ?_
    refine va_getN (D := gD G) (cl := vwCl) (tys := gT G) (ci := 3) (v := .long n9) (C := RX1) (T := TX1) (N := 2) hx hb hw inB_X1 hown hE.K hP 5 rfl rfl 0 (by decide) (va_Nw.use rfl hN.2.1) (fun _ h9 => h9) rfl dL_law_2801 ?_
    refine lv_iload hx hb dL_law_2804 (lv_at hl 0 rfl) ?_
    refine lv_i2l (v := (((gX2_dayOfYear T p0).1).toInt64)) hx hb dL_law_2806 (by first | rfl | decide) ?_
    refine W.lcmp hx hb dL_law_2807 ?_
    refine lv_if_eq (tgt := 2813) hx hb dL_law_2808 (by decide) (fun _ => ?_) (fun c_x => absurd (lgc_eq.mpr (by rw [hc9.2 c_1])) c_x)
    refine lv_goto (tgt := 3946) hx hb dL_law_2813 (by decide) ?_
    refine W.widen (k := cells + 200) (n := slots + 5000) (by first | exact Nat.le_of_eq (Nat.add_assoc _ _ _) | omega) (by first | exact Nat.le_of_eq (Nat.add_assoc _ _ _) | omega) ?_
    exact kk n9 sv9 S9 ((gX2_dayOfYear T p0).2) _ _ ls (rel_dayOfYear hR h9) hP hD hS (lv_sub hl [2, 3, 4, 5, 6] rfl)

set_option maxRecDepth 100000 in
set_option maxHeartbeats 4000000 in
theorem case_dayOfWeek {p : Program} {l : Launch} {e : Env} {s : State} {m : MethodId} {below : List Frame} {meth : Method} {c : Code} {Q : State → Prop} {G : GT} {b9 L9 : Nat} {xs : Nat → Int32} {a bb : Nat → Nat} {o : Nat} (Z : LW p l s m meth c G b9 L9 xs) {i cells slots : Nat} (hi : i + 6 ≤ L9) (hf : cells + 200 ≤ room_1.cells ∧ slots + 5000 ≤ room_1.slots) {n : Int64} {sv : Value} {S : SX} {T : SM} (hR : Rel S T) {H : Heap} {locs : List Loc} {ls : Array Slot} (hP : va_P (gD G) vwCl (wM G bb T ++ wH G a o n sv S) H) (hD : va_D (fun q : Nat => s.heap.size ≤ q) (wM G bb T ++ wH G a o n sv S)) (hS : va_S (fun q : Nat => s.heap.size ≤ q) s.heap H locs) (hl : lv_has ls 7 [(0, .ref b9), (1, .ref (a 0)), (2, .ref (bb 0)), (3, .ref o), (4, .int (nI i))]) (kk : ∀ (n : Int64) (sv : Value) (S : SX) (T : SM) (H : Heap) (locs : List Loc) (ls : Array Slot), Rel S T → va_P (gD G) vwCl (wM G bb T ++ wH G a o n sv S) H → va_D (fun q : Nat => s.heap.size ≤ q) (wM G bb T ++ wH G a o n sv S) → va_S (fun q : Nat => s.heap.size ≤ q) s.heap H locs → lv_has ls 7 [(0, .ref b9), (1, .ref (a 0)), (2, .ref (bb 0)), (3, .ref o), (4, .int (nI i))] → W p l e room_1 s m #[Value.ref b9] below meth c H locs (cells + 200) (slots + 5000) Q (F0 m 3946 ls [])) : W p l e room_1 s m #[Value.ref b9] below meth c H locs (cells) (slots) Q (F0 m 2816 ls []) := by
  obtain ⟨C, hE, hN, hX, hbl, hl9, hL9, hA, hAB, hbA⟩ := Z
  have hx := C.1
  have hb := C.2.1
  have hml := C.2.2.1
  have hown := C.2.2.2.1
  have hw := C.2.2.2.2
  obtain ⟨hf0, hf1, hf2⟩ := lw_hf hf
  have hf3 := hf2
  obtain ⟨p0, hp0⟩ : ∃ y : Int32, xs (nI (i + 1)).toNatClampNeg = y := ⟨_, rfl⟩
  refine lv_aload_n hx hb dL_law_2816 rfl (lv_at hl 1 rfl) ?_
  refine lv_aload_n hx hb dL_law_2817 rfl (lv_at hl 0 rfl) ?_
  refine lv_iload hx hb dL_law_2818 (lv_at hl 4 rfl) ?_
  refine lv_iconst (v := (1 : Int32)) hx hb dL_law_2820 qi_1 ?_
  refine lv_iadd hx hb dL_law_2821 ?_
  refine k_foldi (y := (nI (i + 1))) (nI_add i 1) ?_
  refine va_sld hx hb hX hbl hbA hS (lw_in hi hL9 rfl) dL_law_2822 ?_
  refine k_foldi (y := p0) hp0 ?_
  refine lv_aload_n hx hb dL_law_2823 rfl (lv_at hl 3 rfl) ?_
  refine lwHelp (n := 3) (wr := (wM G bb T)) (wd := (wH G a o n sv S)) (as := [.ref (a 0), .int p0, .ref o]) (rest := []) C (k_dayOfWeek l hl9 G a o n sv S p0) bw713 bw56 (by decide +kernel) rfl bw711 bw712 hN (hE.S hS hAB) hP hD hS hA hAB hl.1 dL_law_2824 ⟨(Nat.le_of_ble_eq_true rfl), (Nat.le_of_ble_eq_true rfl)⟩ rfl (Nat.le_of_ble_eq_true rfl) hf1 (fun r9 wd9 H locs hp9 hP hD hS => ?_)
  obtain ⟨c9, n9, sv9, S9, rfl, rfl, h9⟩ := hp9
  refine W.eq (g2 := F0 m 2827 ls [.int c9]) rfl ?_
  refine lv_istore (lv' := [(5, .int c9), (0, .ref b9), (1, .ref (a 0)), (2, .ref (bb 0)), (3, .ref o), (4, .int (nI i))]) hx hb dL_law_2827 hl (Nat.le_of_ble_eq_true rfl) rfl (fun ls hl => ?_)
  refine lv_aload_n hx hb dL_law_2829 rfl (lv_at hl 3 rfl) ?_
  refine lv_aload_n hx hb dL_law_2830 rfl (lv_at hl 1 rfl) ?_
  refine lv_iload hx hb dL_law_2831 (lv_at hl 5 rfl) ?_
  refine lv_iconst (v := (1 : Int32)) hx hb dL_law_2833 qi_1 ?_
  refine lv_iadd hx hb dL_law_2834 ?_
  refine k_foldi (y := (nI (i + 1))) (nI_add i 1) ?_
  refine va_sld hx hb hX hbl hbA hS (lw_in hi hL9 rfl) dL_law_2835 ?_
  refine k_foldi (y := p0) hp0 ?_
  refine lwWR (MC := 170) (MS := 4200) (st1 := [.int ((gX2_dayOfWeek T p0).1)]) (wr := (wH G a o n9 sv9 S9)) (wd := (wM G bb T)) (as := [.int p0]) (rest := []) (cl := RX2) (Nat.le_of_ble_eq_true rfl) (Nat.le_of_ble_eq_true rfl) C (c_X2_dayOfWeek l G bb T p0 (Rel.mo hR)) F_X2_dayOfWeek rfl bw1468 bw1469 bw1470 (hE.S hS hAB) hP hD hS hA hAB (rv4 hE.K (P_tl (wr := (wH G a o n9 sv9 S9)) hP) (q0 := 0) rfl) hl.1 dL_law_2836 ⟨(Nat.le_of_ble_eq_true rfl), (Nat.le_of_ble_eq_true rfl)⟩ rfl (Nat.le_of_ble_eq_true rfl) hf2 rfl (fun H locs hP hD hS => ?_)
  have hc9 := cmp_dayOfWeek hR h9
  refine lv_istore (lv' := [(6, .int ((gX2_dayOfWeek T p0).1)), (5, .int c9), (0, .ref b9), (1, .ref (a 0)), (2, .ref (bb 0)), (3, .ref o), (4, .int (nI i))]) hx hb dL_law_2839 hl (Nat.le_of_ble_eq_true rfl) rfl (fun ls hl => ?_)
  refine lv_aload_n hx hb dL_law_2841 rfl (lv_at hl 4 rfl) ?_
  refine rcVf (st1 := [.int (fX2_thrown ((gX2_dayOfWeek T p0).2))]) (as := []) (rest := []) (cl := RX2) C (c_X2_thrown l G bb ((gX2_dayOfWeek T p0).2)) F_X2_thrown rfl bw1200 bw1201 (hw _ bw1202) (hE.S hS hAB) (P_hd hP) (rv4 hE.K (P_hd hP) (q0 := 0) rfl) hl.1 dL_law_2842 ⟨Nat.le_of_ble_eq_true rfl, Nat.le_of_ble_eq_true rfl⟩ rfl (Nat.le_of_ble_eq_true rfl) hf3 rfl ?_
  refine k_foldi (y := c9) hc9.1 ?_
  refine lv_iload hx hb dL_law_2845 (lv_at hl 1 rfl) ?_
  refine lv_icmp_eq (tgt := 2852) hx hb dL_law_2847 (by decide) (fun _ => ?_) (fun c_x => absurd rfl c_x)
  refine lv_iload hx hb dL_law_2852 (lv_at hl 1 rfl) ?_
  refine lv_if_ne (tgt := 2870) hx hb dL_law_2854 (by decide) (fun c_1 => ?_) (fun c_1 => ?_)
  · refine lv_goto (tgt := 3946) hx hb dL_law_2870 (by decide) ?_
    refine W.widen (k := cells + 200) (n := slots + 5000) (by first | exact Nat.le_of_eq (Nat.add_assoc _ _ _) | omega) (by first | exact Nat.le_of_eq (Nat.add_assoc _ _ _) | omega) ?_
    exact kk n9 sv9 S9 ((gX2_dayOfWeek T p0).2) _ _ ls (rel_dayOfWeek hR h9) hP hD hS (lv_sub hl [2, 3, 4, 5, 6] rfl)
  · refine lv_aload_n hx hb dL_law_2857 rfl (lv_at hl 5 rfl) ?_
    refine va_getN (D := gD G) (cl := vwCl) (tys := gT G) (ci := 3) (v := .long n9) (C := RX1) (T := TX1) (N := 2) hx hb hw inB_X1 hown hE.K hP 5 rfl rfl 0 (by decide) (va_Nw.use rfl hN.2.1) (fun _ h9 => h9) rfl dL_law_2858 ?_
    refine lv_iload hx hb dL_law_2861 (lv_at hl 0 rfl) ?_
    refine lv_i2l (v := (((gX2_dayOfWeek T p0).1).toInt64)) hx hb dL_law_2863 (by first | rfl | decide) ?_
    refine W.lcmp hx hb dL_law_2864 ?_
    refine lv_if_eq (tgt := 2870) hx hb dL_law_2865 (by decide) (fun _ => ?_) (fun c_x => absurd (lgc_eq.mpr (by rw [hc9.2 c_1])) c_x)
    refine lv_goto (tgt := 3946) hx hb dL_law_2870 (by decide) ?_
    refine W.widen (k := cells + 200) (n := slots + 5000) (by first | exact Nat.le_of_eq (Nat.add_assoc _ _ _) | omega) (by first | exact Nat.le_of_eq (Nat.add_assoc _ _ _) | omega) ?_
    exact kk n9 sv9 S9 ((gX2_dayOfWeek T p0).2) _ _ ls (rel_dayOfWeek hR h9) hP hD hS (lv_sub hl [2, 3, 4, 5, 6] rfl)

set_option maxRecDepth 100000 in
set_option maxHeartbeats 4000000 in
theorem case_hour {p : Program} {l : Launch} {e : Env} {s : State} {m : MethodId} {below : List Frame} {meth : Method} {c : Code} {Q : State → Prop} {G : GT} {b9 L9 : Nat} {xs : Nat → Int32} {a bb : Nat → Nat} {o : Nat} (Z : LW p l s m meth c G b9 L9 xs) {i cells slots : Nat} (hi : i + 6 ≤ L9) (hf : cells + 200 ≤ room_1.cells ∧ slots + 5000 ≤ room_1.slots) {n : Int64} {sv : Value} {S : SX} {T : SM} (hR : Rel S T) {H : Heap} {locs : List Loc} {ls : Array Slot} (hP : va_P (gD G) vwCl (wM G bb T ++ wH G a o n sv S) H) (hD : va_D (fun q : Nat => s.heap.size ≤ q) (wM G bb T ++ wH G a o n sv S)) (hS : va_S (fun q : Nat => s.heap.size ≤ q) s.heap H locs) (hl : lv_has ls 7 [(0, .ref b9), (1, .ref (a 0)), (2, .ref (bb 0)), (3, .ref o), (4, .int (nI i))]) (kk : ∀ (n : Int64) (sv : Value) (S : SX) (T : SM) (H : Heap) (locs : List Loc) (ls : Array Slot), Rel S T → va_P (gD G) vwCl (wM G bb T ++ wH G a o n sv S) H → va_D (fun q : Nat => s.heap.size ≤ q) (wM G bb T ++ wH G a o n sv S) → va_S (fun q : Nat => s.heap.size ≤ q) s.heap H locs → lv_has ls 7 [(0, .ref b9), (1, .ref (a 0)), (2, .ref (bb 0)), (3, .ref o), (4, .int (nI i))] → W p l e room_1 s m #[Value.ref b9] below meth c H locs (cells + 200) (slots + 5000) Q (F0 m 3946 ls [])) : W p l e room_1 s m #[Value.ref b9] below meth c H locs (cells) (slots) Q (F0 m 2873 ls []) := by
  obtain ⟨C, hE, hN, hX, hbl, hl9, hL9, hA, hAB, hbA⟩ := Z
  have hx := C.1
  have hb := C.2.1
  have hml := C.2.2.1
  have hown := C.2.2.2.1
  have hw := C.2.2.2.2
  obtain ⟨hf0, hf1, hf2⟩ := lw_hf hf
  have hf3 := hf2
  obtain ⟨p0, hp0⟩ : ∃ y : Int32, xs (nI (i + 1)).toNatClampNeg = y := ⟨_, rfl⟩
  refine lv_aload_n hx hb dL_law_2873 rfl (lv_at hl 1 rfl) ?_
  refine lv_aload_n hx hb dL_law_2874 rfl (lv_at hl 0 rfl) ?_
  refine lv_iload hx hb dL_law_2875 (lv_at hl 4 rfl) ?_
  refine lv_iconst (v := (1 : Int32)) hx hb dL_law_2877 qi_1 ?_
  refine lv_iadd hx hb dL_law_2878 ?_
  refine k_foldi (y := (nI (i + 1))) (nI_add i 1) ?_
  refine va_sld hx hb hX hbl hbA hS (lw_in hi hL9 rfl) dL_law_2879 ?_
  refine k_foldi (y := p0) hp0 ?_
  refine lv_aload_n hx hb dL_law_2880 rfl (lv_at hl 3 rfl) ?_
  refine lwHelp (n := 3) (wr := (wM G bb T)) (wd := (wH G a o n sv S)) (as := [.ref (a 0), .int p0, .ref o]) (rest := []) C (k_hour l hl9 G a o n sv S p0) bw720 bw56 (by decide +kernel) rfl bw718 bw719 hN (hE.S hS hAB) hP hD hS hA hAB hl.1 dL_law_2881 ⟨(Nat.le_of_ble_eq_true rfl), (Nat.le_of_ble_eq_true rfl)⟩ rfl (Nat.le_of_ble_eq_true rfl) hf1 (fun r9 wd9 H locs hp9 hP hD hS => ?_)
  obtain ⟨c9, n9, sv9, S9, rfl, rfl, h9⟩ := hp9
  refine W.eq (g2 := F0 m 2884 ls [.int c9]) rfl ?_
  refine lv_istore (lv' := [(5, .int c9), (0, .ref b9), (1, .ref (a 0)), (2, .ref (bb 0)), (3, .ref o), (4, .int (nI i))]) hx hb dL_law_2884 hl (Nat.le_of_ble_eq_true rfl) rfl (fun ls hl => ?_)
  refine lv_aload_n hx hb dL_law_2886 rfl (lv_at hl 3 rfl) ?_
  refine lv_aload_n hx hb dL_law_2887 rfl (lv_at hl 1 rfl) ?_
  refine lv_iload hx hb dL_law_2888 (lv_at hl 5 rfl) ?_
  refine lv_iconst (v := (1 : Int32)) hx hb dL_law_2890 qi_1 ?_
  refine lv_iadd hx hb dL_law_2891 ?_
  refine k_foldi (y := (nI (i + 1))) (nI_add i 1) ?_
  refine va_sld hx hb hX hbl hbA hS (lw_in hi hL9 rfl) dL_law_2892 ?_
  refine k_foldi (y := p0) hp0 ?_
  refine lwWR (MC := 170) (MS := 4200) (st1 := [.int ((gX2_hour T p0).1)]) (wr := (wH G a o n9 sv9 S9)) (wd := (wM G bb T)) (as := [.int p0]) (rest := []) (cl := RX2) (Nat.le_of_ble_eq_true rfl) (Nat.le_of_ble_eq_true rfl) C (c_X2_hour l G bb T p0 (Rel.mo hR)) F_X2_hour rfl bw1472 bw1473 bw1474 (hE.S hS hAB) hP hD hS hA hAB (rv4 hE.K (P_tl (wr := (wH G a o n9 sv9 S9)) hP) (q0 := 0) rfl) hl.1 dL_law_2893 ⟨(Nat.le_of_ble_eq_true rfl), (Nat.le_of_ble_eq_true rfl)⟩ rfl (Nat.le_of_ble_eq_true rfl) hf2 rfl (fun H locs hP hD hS => ?_)
  have hc9 := cmp_hour hR h9
  refine lv_istore (lv' := [(6, .int ((gX2_hour T p0).1)), (5, .int c9), (0, .ref b9), (1, .ref (a 0)), (2, .ref (bb 0)), (3, .ref o), (4, .int (nI i))]) hx hb dL_law_2896 hl (Nat.le_of_ble_eq_true rfl) rfl (fun ls hl => ?_)
  refine lv_aload_n hx hb dL_law_2898 rfl (lv_at hl 4 rfl) ?_
  refine rcVf (st1 := [.int (fX2_thrown ((gX2_hour T p0).2))]) (as := []) (rest := []) (cl := RX2) C (c_X2_thrown l G bb ((gX2_hour T p0).2)) F_X2_thrown rfl bw1200 bw1201 (hw _ bw1202) (hE.S hS hAB) (P_hd hP) (rv4 hE.K (P_hd hP) (q0 := 0) rfl) hl.1 dL_law_2899 ⟨Nat.le_of_ble_eq_true rfl, Nat.le_of_ble_eq_true rfl⟩ rfl (Nat.le_of_ble_eq_true rfl) hf3 rfl ?_
  refine k_foldi (y := c9) hc9.1 ?_
  refine lv_iload hx hb dL_law_2902 (lv_at hl 1 rfl) ?_
  refine lv_icmp_eq (tgt := 2909) hx hb dL_law_2904 (by decide) (fun _ => ?_) (fun c_x => absurd rfl c_x)
  refine lv_iload hx hb dL_law_2909 (lv_at hl 1 rfl) ?_
  refine lv_if_ne (tgt := 2927) hx hb dL_law_2911 (by decide) (fun c_1 => ?_) (fun c_1 => ?_)
  · refine lv_goto (tgt := 3946) hx hb dL_law_2927 (by decide) ?_
    refine W.widen (k := cells + 200) (n := slots + 5000) (by first | exact Nat.le_of_eq (Nat.add_assoc _ _ _) | omega) (by first | exact Nat.le_of_eq (Nat.add_assoc _ _ _) | omega) ?_
    exact kk n9 sv9 S9 ((gX2_hour T p0).2) _ _ ls (rel_hour hR h9) hP hD hS (lv_sub hl [2, 3, 4, 5, 6] rfl)
  · refine lv_aload_n hx hb dL_law_2914 rfl (lv_at hl 5 rfl) ?_
    refine va_getN (D := gD G) (cl := vwCl) (tys := gT G) (ci := 3) (v := .long n9) (C := RX1) (T := TX1) (N := 2) hx hb hw inB_X1 hown hE.K hP 5 rfl rfl 0 (by decide) (va_Nw.use rfl hN.2.1) (fun _ h9 => h9) rfl dL_law_2915 ?_
    refine lv_iload hx hb dL_law_2918 (lv_at hl 0 rfl) ?_
    refine lv_i2l (v := (((gX2_hour T p0).1).toInt64)) hx hb dL_law_2920 (by first | rfl | decide) ?_
    refine W.lcmp hx hb dL_law_2921 ?_
    refine lv_if_eq (tgt := 2927) hx hb dL_law_2922 (by decide) (fun _ => ?_) (fun c_x => absurd (lgc_eq.mpr (by rw [hc9.2 c_1])) c_x)
    refine lv_goto (tgt := 3946) hx hb dL_law_2927 (by decide) ?_
    refine W.widen (k := cells + 200) (n := slots + 5000) (by first | exact Nat.le_of_eq (Nat.add_assoc _ _ _) | omega) (by first | exact Nat.le_of_eq (Nat.add_assoc _ _ _) | omega) ?_
    exact kk n9 sv9 S9 ((gX2_hour T p0).2) _ _ ls (rel_hour hR h9) hP hD hS (lv_sub hl [2, 3, 4, 5, 6] rfl)

set_option maxRecDepth 100000 in
set_option maxHeartbeats 4000000 in
theorem case_minute {p : Program} {l : Launch} {e : Env} {s : State} {m : MethodId} {below : List Frame} {meth : Method} {c : Code} {Q : State → Prop} {G : GT} {b9 L9 : Nat} {xs : Nat → Int32} {a bb : Nat → Nat} {o : Nat} (Z : LW p l s m meth c G b9 L9 xs) {i cells slots : Nat} (hi : i + 6 ≤ L9) (hf : cells + 200 ≤ room_1.cells ∧ slots + 5000 ≤ room_1.slots) {n : Int64} {sv : Value} {S : SX} {T : SM} (hR : Rel S T) {H : Heap} {locs : List Loc} {ls : Array Slot} (hP : va_P (gD G) vwCl (wM G bb T ++ wH G a o n sv S) H) (hD : va_D (fun q : Nat => s.heap.size ≤ q) (wM G bb T ++ wH G a o n sv S)) (hS : va_S (fun q : Nat => s.heap.size ≤ q) s.heap H locs) (hl : lv_has ls 7 [(0, .ref b9), (1, .ref (a 0)), (2, .ref (bb 0)), (3, .ref o), (4, .int (nI i))]) (kk : ∀ (n : Int64) (sv : Value) (S : SX) (T : SM) (H : Heap) (locs : List Loc) (ls : Array Slot), Rel S T → va_P (gD G) vwCl (wM G bb T ++ wH G a o n sv S) H → va_D (fun q : Nat => s.heap.size ≤ q) (wM G bb T ++ wH G a o n sv S) → va_S (fun q : Nat => s.heap.size ≤ q) s.heap H locs → lv_has ls 7 [(0, .ref b9), (1, .ref (a 0)), (2, .ref (bb 0)), (3, .ref o), (4, .int (nI i))] → W p l e room_1 s m #[Value.ref b9] below meth c H locs (cells + 200) (slots + 5000) Q (F0 m 3946 ls [])) : W p l e room_1 s m #[Value.ref b9] below meth c H locs (cells) (slots) Q (F0 m 2930 ls []) := by
  obtain ⟨C, hE, hN, hX, hbl, hl9, hL9, hA, hAB, hbA⟩ := Z
  have hx := C.1
  have hb := C.2.1
  have hml := C.2.2.1
  have hown := C.2.2.2.1
  have hw := C.2.2.2.2
  obtain ⟨hf0, hf1, hf2⟩ := lw_hf hf
  have hf3 := hf2
  obtain ⟨p0, hp0⟩ : ∃ y : Int32, xs (nI (i + 1)).toNatClampNeg = y := ⟨_, rfl⟩
  refine lv_aload_n hx hb dL_law_2930 rfl (lv_at hl 1 rfl) ?_
  refine lv_aload_n hx hb dL_law_2931 rfl (lv_at hl 0 rfl) ?_
  refine lv_iload hx hb dL_law_2932 (lv_at hl 4 rfl) ?_
  refine lv_iconst (v := (1 : Int32)) hx hb dL_law_2934 qi_1 ?_
  refine lv_iadd hx hb dL_law_2935 ?_
  refine k_foldi (y := (nI (i + 1))) (nI_add i 1) ?_
  refine va_sld hx hb hX hbl hbA hS (lw_in hi hL9 rfl) dL_law_2936 ?_
  refine k_foldi (y := p0) hp0 ?_
  refine lv_aload_n hx hb dL_law_2937 rfl (lv_at hl 3 rfl) ?_
  refine lwHelp (n := 3) (wr := (wM G bb T)) (wd := (wH G a o n sv S)) (as := [.ref (a 0), .int p0, .ref o]) (rest := []) C (k_minute l hl9 G a o n sv S p0) bw727 bw56 (by decide +kernel) rfl bw725 bw726 hN (hE.S hS hAB) hP hD hS hA hAB hl.1 dL_law_2938 ⟨(Nat.le_of_ble_eq_true rfl), (Nat.le_of_ble_eq_true rfl)⟩ rfl (Nat.le_of_ble_eq_true rfl) hf1 (fun r9 wd9 H locs hp9 hP hD hS => ?_)
  obtain ⟨c9, n9, sv9, S9, rfl, rfl, h9⟩ := hp9
  refine W.eq (g2 := F0 m 2941 ls [.int c9]) rfl ?_
  refine lv_istore (lv' := [(5, .int c9), (0, .ref b9), (1, .ref (a 0)), (2, .ref (bb 0)), (3, .ref o), (4, .int (nI i))]) hx hb dL_law_2941 hl (Nat.le_of_ble_eq_true rfl) rfl (fun ls hl => ?_)
  refine lv_aload_n hx hb dL_law_2943 rfl (lv_at hl 3 rfl) ?_
  refine lv_aload_n hx hb dL_law_2944 rfl (lv_at hl 1 rfl) ?_
  refine lv_iload hx hb dL_law_2945 (lv_at hl 5 rfl) ?_
  refine lv_iconst (v := (1 : Int32)) hx hb dL_law_2947 qi_1 ?_
  refine lv_iadd hx hb dL_law_2948 ?_
  refine k_foldi (y := (nI (i + 1))) (nI_add i 1) ?_
  refine va_sld hx hb hX hbl hbA hS (lw_in hi hL9 rfl) dL_law_2949 ?_
  refine k_foldi (y := p0) hp0 ?_
  refine lwWR (MC := 170) (MS := 4200) (st1 := [.int ((gX2_minute T p0).1)]) (wr := (wH G a o n9 sv9 S9)) (wd := (wM G bb T)) (as := [.int p0]) (rest := []) (cl := RX2) (Nat.le_of_ble_eq_true rfl) (Nat.le_of_ble_eq_true rfl) C (c_X2_minute l G bb T p0 (Rel.mo hR)) F_X2_minute rfl bw1480 bw1481 bw1482 (hE.S hS hAB) hP hD hS hA hAB (rv4 hE.K (P_tl (wr := (wH G a o n9 sv9 S9)) hP) (q0 := 0) rfl) hl.1 dL_law_2950 ⟨(Nat.le_of_ble_eq_true rfl), (Nat.le_of_ble_eq_true rfl)⟩ rfl (Nat.le_of_ble_eq_true rfl) hf2 rfl (fun H locs hP hD hS => ?_)
  have hc9 := cmp_minute hR h9
  refine lv_istore (lv' := [(6, .int ((gX2_minute T p0).1)), (5, .int c9), (0, .ref b9), (1, .ref (a 0)), (2, .ref (bb 0)), (3, .ref o), (4, .int (nI i))]) hx hb dL_law_2953 hl (Nat.le_of_ble_eq_true rfl) rfl (fun ls hl => ?_)
  refine lv_aload_n hx hb dL_law_2955 rfl (lv_at hl 4 rfl) ?_
  refine rcVf (st1 := [.int (fX2_thrown ((gX2_minute T p0).2))]) (as := []) (rest := []) (cl := RX2) C (c_X2_thrown l G bb ((gX2_minute T p0).2)) F_X2_thrown rfl bw1200 bw1201 (hw _ bw1202) (hE.S hS hAB) (P_hd hP) (rv4 hE.K (P_hd hP) (q0 := 0) rfl) hl.1 dL_law_2956 ⟨Nat.le_of_ble_eq_true rfl, Nat.le_of_ble_eq_true rfl⟩ rfl (Nat.le_of_ble_eq_true rfl) hf3 rfl ?_
  refine k_foldi (y := c9) hc9.1 ?_
  refine lv_iload hx hb dL_law_2959 (lv_at hl 1 rfl) ?_
  refine lv_icmp_eq (tgt := 2966) hx hb dL_law_2961 (by decide) (fun _ => ?_) (fun c_x => absurd rfl c_x)
  refine lv_iload hx hb dL_law_2966 (lv_at hl 1 rfl) ?_
  refine lv_if_ne (tgt := 2984) hx hb dL_law_2968 (by decide) (fun c_1 => ?_) (fun c_1 => ?_)
  · refine lv_goto (tgt := 3946) hx hb dL_law_2984 (by decide) ?_
    refine W.widen (k := cells + 200) (n := slots + 5000) (by first | exact Nat.le_of_eq (Nat.add_assoc _ _ _) | omega) (by first | exact Nat.le_of_eq (Nat.add_assoc _ _ _) | omega) ?_
    exact kk n9 sv9 S9 ((gX2_minute T p0).2) _ _ ls (rel_minute hR h9) hP hD hS (lv_sub hl [2, 3, 4, 5, 6] rfl)
  · refine lv_aload_n hx hb dL_law_2971 rfl (lv_at hl 5 rfl) ?_
    refine va_getN (D := gD G) (cl := vwCl) (tys := gT G) (ci := 3) (v := .long n9) (C := RX1) (T := TX1) (N := 2) hx hb hw inB_X1 hown hE.K hP 5 rfl rfl 0 (by decide) (va_Nw.use rfl hN.2.1) (fun _ h9 => h9) rfl dL_law_2972 ?_
    refine lv_iload hx hb dL_law_2975 (lv_at hl 0 rfl) ?_
    refine lv_i2l (v := (((gX2_minute T p0).1).toInt64)) hx hb dL_law_2977 (by first | rfl | decide) ?_
    refine W.lcmp hx hb dL_law_2978 ?_
    refine lv_if_eq (tgt := 2984) hx hb dL_law_2979 (by decide) (fun _ => ?_) (fun c_x => absurd (lgc_eq.mpr (by rw [hc9.2 c_1])) c_x)
    refine lv_goto (tgt := 3946) hx hb dL_law_2984 (by decide) ?_
    refine W.widen (k := cells + 200) (n := slots + 5000) (by first | exact Nat.le_of_eq (Nat.add_assoc _ _ _) | omega) (by first | exact Nat.le_of_eq (Nat.add_assoc _ _ _) | omega) ?_
    exact kk n9 sv9 S9 ((gX2_minute T p0).2) _ _ ls (rel_minute hR h9) hP hD hS (lv_sub hl [2, 3, 4, 5, 6] rfl)

set_option maxRecDepth 100000 in
set_option maxHeartbeats 4000000 in
theorem case_second {p : Program} {l : Launch} {e : Env} {s : State} {m : MethodId} {below : List Frame} {meth : Method} {c : Code} {Q : State → Prop} {G : GT} {b9 L9 : Nat} {xs : Nat → Int32} {a bb : Nat → Nat} {o : Nat} (Z : LW p l s m meth c G b9 L9 xs) {i cells slots : Nat} (hi : i + 6 ≤ L9) (hf : cells + 200 ≤ room_1.cells ∧ slots + 5000 ≤ room_1.slots) {n : Int64} {sv : Value} {S : SX} {T : SM} (hR : Rel S T) {H : Heap} {locs : List Loc} {ls : Array Slot} (hP : va_P (gD G) vwCl (wM G bb T ++ wH G a o n sv S) H) (hD : va_D (fun q : Nat => s.heap.size ≤ q) (wM G bb T ++ wH G a o n sv S)) (hS : va_S (fun q : Nat => s.heap.size ≤ q) s.heap H locs) (hl : lv_has ls 7 [(0, .ref b9), (1, .ref (a 0)), (2, .ref (bb 0)), (3, .ref o), (4, .int (nI i))]) (kk : ∀ (n : Int64) (sv : Value) (S : SX) (T : SM) (H : Heap) (locs : List Loc) (ls : Array Slot), Rel S T → va_P (gD G) vwCl (wM G bb T ++ wH G a o n sv S) H → va_D (fun q : Nat => s.heap.size ≤ q) (wM G bb T ++ wH G a o n sv S) → va_S (fun q : Nat => s.heap.size ≤ q) s.heap H locs → lv_has ls 7 [(0, .ref b9), (1, .ref (a 0)), (2, .ref (bb 0)), (3, .ref o), (4, .int (nI i))] → W p l e room_1 s m #[Value.ref b9] below meth c H locs (cells + 200) (slots + 5000) Q (F0 m 3946 ls [])) : W p l e room_1 s m #[Value.ref b9] below meth c H locs (cells) (slots) Q (F0 m 2987 ls []) := by
  obtain ⟨C, hE, hN, hX, hbl, hl9, hL9, hA, hAB, hbA⟩ := Z
  have hx := C.1
  have hb := C.2.1
  have hml := C.2.2.1
  have hown := C.2.2.2.1
  have hw := C.2.2.2.2
  obtain ⟨hf0, hf1, hf2⟩ := lw_hf hf
  have hf3 := hf2
  obtain ⟨p0, hp0⟩ : ∃ y : Int32, xs (nI (i + 1)).toNatClampNeg = y := ⟨_, rfl⟩
  refine lv_aload_n hx hb dL_law_2987 rfl (lv_at hl 1 rfl) ?_
  refine lv_aload_n hx hb dL_law_2988 rfl (lv_at hl 0 rfl) ?_
  refine lv_iload hx hb dL_law_2989 (lv_at hl 4 rfl) ?_
  refine lv_iconst (v := (1 : Int32)) hx hb dL_law_2991 qi_1 ?_
  refine lv_iadd hx hb dL_law_2992 ?_
  refine k_foldi (y := (nI (i + 1))) (nI_add i 1) ?_
  refine va_sld hx hb hX hbl hbA hS (lw_in hi hL9 rfl) dL_law_2993 ?_
  refine k_foldi (y := p0) hp0 ?_
  refine lv_aload_n hx hb dL_law_2994 rfl (lv_at hl 3 rfl) ?_
  refine lwHelp (n := 3) (wr := (wM G bb T)) (wd := (wH G a o n sv S)) (as := [.ref (a 0), .int p0, .ref o]) (rest := []) C (k_second l hl9 G a o n sv S p0) bw734 bw56 (by decide +kernel) rfl bw732 bw733 hN (hE.S hS hAB) hP hD hS hA hAB hl.1 dL_law_2995 ⟨(Nat.le_of_ble_eq_true rfl), (Nat.le_of_ble_eq_true rfl)⟩ rfl (Nat.le_of_ble_eq_true rfl) hf1 (fun r9 wd9 H locs hp9 hP hD hS => ?_)
  obtain ⟨c9, n9, sv9, S9, rfl, rfl, h9⟩ := hp9
  refine W.eq (g2 := F0 m 2998 ls [.int c9]) rfl ?_
  refine lv_istore (lv' := [(5, .int c9), (0, .ref b9), (1, .ref (a 0)), (2, .ref (bb 0)), (3, .ref o), (4, .int (nI i))]) hx hb dL_law_2998 hl (Nat.le_of_ble_eq_true rfl) rfl (fun ls hl => ?_)
  refine lv_aload_n hx hb dL_law_3000 rfl (lv_at hl 3 rfl) ?_
  refine lv_aload_n hx hb dL_law_3001 rfl (lv_at hl 1 rfl) ?_
  refine lv_iload hx hb dL_law_3002 (lv_at hl 5 rfl) ?_
  refine lv_iconst (v := (1 : Int32)) hx hb dL_law_3004 qi_1 ?_
  refine lv_iadd hx hb dL_law_3005 ?_
  refine k_foldi (y := (nI (i + 1))) (nI_add i 1) ?_
  refine va_sld hx hb hX hbl hbA hS (lw_in hi hL9 rfl) dL_law_3006 ?_
  refine k_foldi (y := p0) hp0 ?_
  refine lwWR (MC := 170) (MS := 4200) (st1 := [.int ((gX2_second T p0).1)]) (wr := (wH G a o n9 sv9 S9)) (wd := (wM G bb T)) (as := [.int p0]) (rest := []) (cl := RX2) (Nat.le_of_ble_eq_true rfl) (Nat.le_of_ble_eq_true rfl) C (c_X2_second l G bb T p0 (Rel.mo hR)) F_X2_second rfl bw1484 bw1485 bw1486 (hE.S hS hAB) hP hD hS hA hAB (rv4 hE.K (P_tl (wr := (wH G a o n9 sv9 S9)) hP) (q0 := 0) rfl) hl.1 dL_law_3007 ⟨(Nat.le_of_ble_eq_true rfl), (Nat.le_of_ble_eq_true rfl)⟩ rfl (Nat.le_of_ble_eq_true rfl) hf2 rfl (fun H locs hP hD hS => ?_)
  have hc9 := cmp_second hR h9
  refine lv_istore (lv' := [(6, .int ((gX2_second T p0).1)), (5, .int c9), (0, .ref b9), (1, .ref (a 0)), (2, .ref (bb 0)), (3, .ref o), (4, .int (nI i))]) hx hb dL_law_3010 hl (Nat.le_of_ble_eq_true rfl) rfl (fun ls hl => ?_)
  refine lv_aload_n hx hb dL_law_3012 rfl (lv_at hl 4 rfl) ?_
  refine rcVf (st1 := [.int (fX2_thrown ((gX2_second T p0).2))]) (as := []) (rest := []) (cl := RX2) C (c_X2_thrown l G bb ((gX2_second T p0).2)) F_X2_thrown rfl bw1200 bw1201 (hw _ bw1202) (hE.S hS hAB) (P_hd hP) (rv4 hE.K (P_hd hP) (q0 := 0) rfl) hl.1 dL_law_3013 ⟨Nat.le_of_ble_eq_true rfl, Nat.le_of_ble_eq_true rfl⟩ rfl (Nat.le_of_ble_eq_true rfl) hf3 rfl ?_
  refine k_foldi (y := c9) hc9.1 ?_
  refine lv_iload hx hb dL_law_3016 (lv_at hl 1 rfl) ?_
  refine lv_icmp_eq (tgt := 3023) hx hb dL_law_3018 (by decide) (fun _ => ?_) (fun c_x => absurd rfl c_x)
  refine lv_iload hx hb dL_law_3023 (lv_at hl 1 rfl) ?_
  refine lv_if_ne (tgt := 3041) hx hb dL_law_3025 (by decide) (fun c_1 => ?_) (fun c_1 => ?_)
  · refine lv_goto (tgt := 3946) hx hb dL_law_3041 (by decide) ?_
    refine W.widen (k := cells + 200) (n := slots + 5000) (by first | exact Nat.le_of_eq (Nat.add_assoc _ _ _) | omega) (by first | exact Nat.le_of_eq (Nat.add_assoc _ _ _) | omega) ?_
    exact kk n9 sv9 S9 ((gX2_second T p0).2) _ _ ls (rel_second hR h9) hP hD hS (lv_sub hl [2, 3, 4, 5, 6] rfl)
  · refine lv_aload_n hx hb dL_law_3028 rfl (lv_at hl 5 rfl) ?_
    refine va_getN (D := gD G) (cl := vwCl) (tys := gT G) (ci := 3) (v := .long n9) (C := RX1) (T := TX1) (N := 2) hx hb hw inB_X1 hown hE.K hP 5 rfl rfl 0 (by decide) (va_Nw.use rfl hN.2.1) (fun _ h9 => h9) rfl dL_law_3029 ?_
    refine lv_iload hx hb dL_law_3032 (lv_at hl 0 rfl) ?_
    refine lv_i2l (v := (((gX2_second T p0).1).toInt64)) hx hb dL_law_3034 (by first | rfl | decide) ?_
    refine W.lcmp hx hb dL_law_3035 ?_
    refine lv_if_eq (tgt := 3041) hx hb dL_law_3036 (by decide) (fun _ => ?_) (fun c_x => absurd (lgc_eq.mpr (by rw [hc9.2 c_1])) c_x)
    refine lv_goto (tgt := 3946) hx hb dL_law_3041 (by decide) ?_
    refine W.widen (k := cells + 200) (n := slots + 5000) (by first | exact Nat.le_of_eq (Nat.add_assoc _ _ _) | omega) (by first | exact Nat.le_of_eq (Nat.add_assoc _ _ _) | omega) ?_
    exact kk n9 sv9 S9 ((gX2_second T p0).2) _ _ ls (rel_second hR h9) hP hD hS (lv_sub hl [2, 3, 4, 5, 6] rfl)

set_option maxRecDepth 100000 in
set_option maxHeartbeats 4000000 in
theorem case_nano {p : Program} {l : Launch} {e : Env} {s : State} {m : MethodId} {below : List Frame} {meth : Method} {c : Code} {Q : State → Prop} {G : GT} {b9 L9 : Nat} {xs : Nat → Int32} {a bb : Nat → Nat} {o : Nat} (Z : LW p l s m meth c G b9 L9 xs) {i cells slots : Nat} (hi : i + 6 ≤ L9) (hf : cells + 200 ≤ room_1.cells ∧ slots + 5000 ≤ room_1.slots) {n : Int64} {sv : Value} {S : SX} {T : SM} (hR : Rel S T) {H : Heap} {locs : List Loc} {ls : Array Slot} (hP : va_P (gD G) vwCl (wM G bb T ++ wH G a o n sv S) H) (hD : va_D (fun q : Nat => s.heap.size ≤ q) (wM G bb T ++ wH G a o n sv S)) (hS : va_S (fun q : Nat => s.heap.size ≤ q) s.heap H locs) (hl : lv_has ls 7 [(0, .ref b9), (1, .ref (a 0)), (2, .ref (bb 0)), (3, .ref o), (4, .int (nI i))]) (kk : ∀ (n : Int64) (sv : Value) (S : SX) (T : SM) (H : Heap) (locs : List Loc) (ls : Array Slot), Rel S T → va_P (gD G) vwCl (wM G bb T ++ wH G a o n sv S) H → va_D (fun q : Nat => s.heap.size ≤ q) (wM G bb T ++ wH G a o n sv S) → va_S (fun q : Nat => s.heap.size ≤ q) s.heap H locs → lv_has ls 7 [(0, .ref b9), (1, .ref (a 0)), (2, .ref (bb 0)), (3, .ref o), (4, .int (nI i))] → W p l e room_1 s m #[Value.ref b9] below meth c H locs (cells + 200) (slots + 5000) Q (F0 m 3946 ls [])) : W p l e room_1 s m #[Value.ref b9] below meth c H locs (cells) (slots) Q (F0 m 3044 ls []) := by
  obtain ⟨C, hE, hN, hX, hbl, hl9, hL9, hA, hAB, hbA⟩ := Z
  have hx := C.1
  have hb := C.2.1
  have hml := C.2.2.1
  have hown := C.2.2.2.1
  have hw := C.2.2.2.2
  obtain ⟨hf0, hf1, hf2⟩ := lw_hf hf
  have hf3 := hf2
  obtain ⟨p0, hp0⟩ : ∃ y : Int32, xs (nI (i + 1)).toNatClampNeg = y := ⟨_, rfl⟩
  refine lv_aload_n hx hb dL_law_3044 rfl (lv_at hl 1 rfl) ?_
  refine lv_aload_n hx hb dL_law_3045 rfl (lv_at hl 0 rfl) ?_
  refine lv_iload hx hb dL_law_3046 (lv_at hl 4 rfl) ?_
  refine lv_iconst (v := (1 : Int32)) hx hb dL_law_3048 qi_1 ?_
  refine lv_iadd hx hb dL_law_3049 ?_
  refine k_foldi (y := (nI (i + 1))) (nI_add i 1) ?_
  refine va_sld hx hb hX hbl hbA hS (lw_in hi hL9 rfl) dL_law_3050 ?_
  refine k_foldi (y := p0) hp0 ?_
  refine lv_aload_n hx hb dL_law_3051 rfl (lv_at hl 3 rfl) ?_
  refine lwHelp (n := 3) (wr := (wM G bb T)) (wd := (wH G a o n sv S)) (as := [.ref (a 0), .int p0, .ref o]) (rest := []) C (k_nano l hl9 G a o n sv S p0) bw741 bw56 (by decide +kernel) rfl bw739 bw740 hN (hE.S hS hAB) hP hD hS hA hAB hl.1 dL_law_3052 ⟨(Nat.le_of_ble_eq_true rfl), (Nat.le_of_ble_eq_true rfl)⟩ rfl (Nat.le_of_ble_eq_true rfl) hf1 (fun r9 wd9 H locs hp9 hP hD hS => ?_)
  obtain ⟨c9, n9, sv9, S9, rfl, rfl, h9⟩ := hp9
  refine W.eq (g2 := F0 m 3055 ls [.int c9]) rfl ?_
  refine lv_istore (lv' := [(5, .int c9), (0, .ref b9), (1, .ref (a 0)), (2, .ref (bb 0)), (3, .ref o), (4, .int (nI i))]) hx hb dL_law_3055 hl (Nat.le_of_ble_eq_true rfl) rfl (fun ls hl => ?_)
  refine lv_aload_n hx hb dL_law_3057 rfl (lv_at hl 3 rfl) ?_
  refine lv_aload_n hx hb dL_law_3058 rfl (lv_at hl 1 rfl) ?_
  refine lv_iload hx hb dL_law_3059 (lv_at hl 5 rfl) ?_
  refine lv_iconst (v := (1 : Int32)) hx hb dL_law_3061 qi_1 ?_
  refine lv_iadd hx hb dL_law_3062 ?_
  refine k_foldi (y := (nI (i + 1))) (nI_add i 1) ?_
  refine va_sld hx hb hX hbl hbA hS (lw_in hi hL9 rfl) dL_law_3063 ?_
  refine k_foldi (y := p0) hp0 ?_
  refine lwWR (MC := 170) (MS := 4200) (st1 := [.int ((gX2_nano T p0).1)]) (wr := (wH G a o n9 sv9 S9)) (wd := (wM G bb T)) (as := [.int p0]) (rest := []) (cl := RX2) (Nat.le_of_ble_eq_true rfl) (Nat.le_of_ble_eq_true rfl) C (c_X2_nano l G bb T p0 (Rel.mo hR)) F_X2_nano rfl bw1488 bw1489 bw1490 (hE.S hS hAB) hP hD hS hA hAB (rv4 hE.K (P_tl (wr := (wH G a o n9 sv9 S9)) hP) (q0 := 0) rfl) hl.1 dL_law_3064 ⟨(Nat.le_of_ble_eq_true rfl), (Nat.le_of_ble_eq_true rfl)⟩ rfl (Nat.le_of_ble_eq_true rfl) hf2 rfl (fun H locs hP hD hS => ?_)
  have hc9 := cmp_nano hR h9
  refine lv_istore (lv' := [(6, .int ((gX2_nano T p0).1)), (5, .int c9), (0, .ref b9), (1, .ref (a 0)), (2, .ref (bb 0)), (3, .ref o), (4, .int (nI i))]) hx hb dL_law_3067 hl (Nat.le_of_ble_eq_true rfl) rfl (fun ls hl => ?_)
  refine lv_aload_n hx hb dL_law_3069 rfl (lv_at hl 4 rfl) ?_
  refine rcVf (st1 := [.int (fX2_thrown ((gX2_nano T p0).2))]) (as := []) (rest := []) (cl := RX2) C (c_X2_thrown l G bb ((gX2_nano T p0).2)) F_X2_thrown rfl bw1200 bw1201 (hw _ bw1202) (hE.S hS hAB) (P_hd hP) (rv4 hE.K (P_hd hP) (q0 := 0) rfl) hl.1 dL_law_3070 ⟨Nat.le_of_ble_eq_true rfl, Nat.le_of_ble_eq_true rfl⟩ rfl (Nat.le_of_ble_eq_true rfl) hf3 rfl ?_
  refine k_foldi (y := c9) hc9.1 ?_
  refine lv_iload hx hb dL_law_3073 (lv_at hl 1 rfl) ?_
  refine lv_icmp_eq (tgt := 3080) hx hb dL_law_3075 (by decide) (fun _ => ?_) (fun c_x => absurd rfl c_x)
  refine lv_iload hx hb dL_law_3080 (lv_at hl 1 rfl) ?_
  refine lv_if_ne (tgt := 3098) hx hb dL_law_3082 (by decide) (fun c_1 => ?_) (fun c_1 => ?_)
  · refine lv_goto (tgt := 3946) hx hb dL_law_3098 (by decide) ?_
    refine W.widen (k := cells + 200) (n := slots + 5000) (by first | exact Nat.le_of_eq (Nat.add_assoc _ _ _) | omega) (by first | exact Nat.le_of_eq (Nat.add_assoc _ _ _) | omega) ?_
    exact kk n9 sv9 S9 ((gX2_nano T p0).2) _ _ ls (rel_nano hR h9) hP hD hS (lv_sub hl [2, 3, 4, 5, 6] rfl)
  · refine lv_aload_n hx hb dL_law_3085 rfl (lv_at hl 5 rfl) ?_
    refine va_getN (D := gD G) (cl := vwCl) (tys := gT G) (ci := 3) (v := .long n9) (C := RX1) (T := TX1) (N := 2) hx hb hw inB_X1 hown hE.K hP 5 rfl rfl 0 (by decide) (va_Nw.use rfl hN.2.1) (fun _ h9 => h9) rfl dL_law_3086 ?_
    refine lv_iload hx hb dL_law_3089 (lv_at hl 0 rfl) ?_
    refine lv_i2l (v := (((gX2_nano T p0).1).toInt64)) hx hb dL_law_3091 (by first | rfl | decide) ?_
    refine W.lcmp hx hb dL_law_3092 ?_
    refine lv_if_eq (tgt := 3098) hx hb dL_law_3093 (by decide) (fun _ => ?_) (fun c_x => absurd (lgc_eq.mpr (by rw [hc9.2 c_1])) c_x)
    refine lv_goto (tgt := 3946) hx hb dL_law_3098 (by decide) ?_
    refine W.widen (k := cells + 200) (n := slots + 5000) (by first | exact Nat.le_of_eq (Nat.add_assoc _ _ _) | omega) (by first | exact Nat.le_of_eq (Nat.add_assoc _ _ _) | omega) ?_
    exact kk n9 sv9 S9 ((gX2_nano T p0).2) _ _ ls (rel_nano hR h9) hP hD hS (lv_sub hl [2, 3, 4, 5, 6] rfl)

set_option maxRecDepth 100000 in
set_option maxHeartbeats 4000000 in
theorem case_day {p : Program} {l : Launch} {e : Env} {s : State} {m : MethodId} {below : List Frame} {meth : Method} {c : Code} {Q : State → Prop} {G : GT} {b9 L9 : Nat} {xs : Nat → Int32} {a bb : Nat → Nat} {o : Nat} (Z : LW p l s m meth c G b9 L9 xs) {i cells slots : Nat} (hi : i + 6 ≤ L9) (hf : cells + 200 ≤ room_1.cells ∧ slots + 5000 ≤ room_1.slots) {n : Int64} {sv : Value} {S : SX} {T : SM} (hR : Rel S T) {H : Heap} {locs : List Loc} {ls : Array Slot} (hP : va_P (gD G) vwCl (wM G bb T ++ wH G a o n sv S) H) (hD : va_D (fun q : Nat => s.heap.size ≤ q) (wM G bb T ++ wH G a o n sv S)) (hS : va_S (fun q : Nat => s.heap.size ≤ q) s.heap H locs) (hl : lv_has ls 7 [(0, .ref b9), (1, .ref (a 0)), (2, .ref (bb 0)), (3, .ref o), (4, .int (nI i))]) (kk : ∀ (n : Int64) (sv : Value) (S : SX) (T : SM) (H : Heap) (locs : List Loc) (ls : Array Slot), Rel S T → va_P (gD G) vwCl (wM G bb T ++ wH G a o n sv S) H → va_D (fun q : Nat => s.heap.size ≤ q) (wM G bb T ++ wH G a o n sv S) → va_S (fun q : Nat => s.heap.size ≤ q) s.heap H locs → lv_has ls 7 [(0, .ref b9), (1, .ref (a 0)), (2, .ref (bb 0)), (3, .ref o), (4, .int (nI i))] → W p l e room_1 s m #[Value.ref b9] below meth c H locs (cells + 200) (slots + 5000) Q (F0 m 3946 ls [])) : W p l e room_1 s m #[Value.ref b9] below meth c H locs (cells) (slots) Q (F0 m 3101 ls []) := by
  obtain ⟨C, hE, hN, hX, hbl, hl9, hL9, hA, hAB, hbA⟩ := Z
  have hx := C.1
  have hb := C.2.1
  have hml := C.2.2.1
  have hown := C.2.2.2.1
  have hw := C.2.2.2.2
  obtain ⟨hf0, hf1, hf2⟩ := lw_hf hf
  have hf3 := hf2
  obtain ⟨p0, hp0⟩ : ∃ y : Int32, xs (nI (i + 1)).toNatClampNeg = y := ⟨_, rfl⟩
  refine lv_aload_n hx hb dL_law_3101 rfl (lv_at hl 1 rfl) ?_
  refine lv_aload_n hx hb dL_law_3102 rfl (lv_at hl 0 rfl) ?_
  refine lv_iload hx hb dL_law_3103 (lv_at hl 4 rfl) ?_
  refine lv_iconst (v := (1 : Int32)) hx hb dL_law_3105 qi_1 ?_
  refine lv_iadd hx hb dL_law_3106 ?_
  refine k_foldi (y := (nI (i + 1))) (nI_add i 1) ?_
  refine va_sld hx hb hX hbl hbA hS (lw_in hi hL9 rfl) dL_law_3107 ?_
  refine k_foldi (y := p0) hp0 ?_
  refine lv_aload_n hx hb dL_law_3108 rfl (lv_at hl 3 rfl) ?_
  refine lwHelp (n := 3) (wr := (wM G bb T)) (wd := (wH G a o n sv S)) (as := [.ref (a 0), .int p0, .ref o]) (rest := []) C (k_day l hl9 G a o n sv S p0) bw748 bw56 (by decide +kernel) rfl bw746 bw747 hN (hE.S hS hAB) hP hD hS hA hAB hl.1 dL_law_3109 ⟨(Nat.le_of_ble_eq_true rfl), (Nat.le_of_ble_eq_true rfl)⟩ rfl (Nat.le_of_ble_eq_true rfl) hf1 (fun r9 wd9 H locs hp9 hP hD hS => ?_)
  obtain ⟨c9, n9, sv9, S9, rfl, rfl, h9⟩ := hp9
  refine W.eq (g2 := F0 m 3112 ls [.int c9]) rfl ?_
  refine lv_istore (lv' := [(5, .int c9), (0, .ref b9), (1, .ref (a 0)), (2, .ref (bb 0)), (3, .ref o), (4, .int (nI i))]) hx hb dL_law_3112 hl (Nat.le_of_ble_eq_true rfl) rfl (fun ls hl => ?_)
  refine lv_aload_n hx hb dL_law_3114 rfl (lv_at hl 3 rfl) ?_
  refine lv_aload_n hx hb dL_law_3115 rfl (lv_at hl 1 rfl) ?_
  refine lv_iload hx hb dL_law_3116 (lv_at hl 5 rfl) ?_
  refine lv_iconst (v := (1 : Int32)) hx hb dL_law_3118 qi_1 ?_
  refine lv_iadd hx hb dL_law_3119 ?_
  refine k_foldi (y := (nI (i + 1))) (nI_add i 1) ?_
  refine va_sld hx hb hX hbl hbA hS (lw_in hi hL9 rfl) dL_law_3120 ?_
  refine k_foldi (y := p0) hp0 ?_
  refine lwWR (MC := 170) (MS := 4200) (st1 := [.int ((gX2_day T p0).1)]) (wr := (wH G a o n9 sv9 S9)) (wd := (wM G bb T)) (as := [.int p0]) (rest := []) (cl := RX2) (Nat.le_of_ble_eq_true rfl) (Nat.le_of_ble_eq_true rfl) C (c_X2_day l G bb T p0 (Rel.mo hR)) F_X2_day rfl bw1492 bw1493 bw1494 (hE.S hS hAB) hP hD hS hA hAB (rv4 hE.K (P_tl (wr := (wH G a o n9 sv9 S9)) hP) (q0 := 0) rfl) hl.1 dL_law_3121 ⟨(Nat.le_of_ble_eq_true rfl), (Nat.le_of_ble_eq_true rfl)⟩ rfl (Nat.le_of_ble_eq_true rfl) hf2 rfl (fun H locs hP hD hS => ?_)
  have hc9 := cmp_day hR h9
  refine lv_istore (lv' := [(6, .int ((gX2_day T p0).1)), (5, .int c9), (0, .ref b9), (1, .ref (a 0)), (2, .ref (bb 0)), (3, .ref o), (4, .int (nI i))]) hx hb dL_law_3124 hl (Nat.le_of_ble_eq_true rfl) rfl (fun ls hl => ?_)
  refine lv_aload_n hx hb dL_law_3126 rfl (lv_at hl 4 rfl) ?_
  refine rcVf (st1 := [.int (fX2_thrown ((gX2_day T p0).2))]) (as := []) (rest := []) (cl := RX2) C (c_X2_thrown l G bb ((gX2_day T p0).2)) F_X2_thrown rfl bw1200 bw1201 (hw _ bw1202) (hE.S hS hAB) (P_hd hP) (rv4 hE.K (P_hd hP) (q0 := 0) rfl) hl.1 dL_law_3127 ⟨Nat.le_of_ble_eq_true rfl, Nat.le_of_ble_eq_true rfl⟩ rfl (Nat.le_of_ble_eq_true rfl) hf3 rfl ?_
  refine k_foldi (y := c9) hc9.1 ?_
  refine lv_iload hx hb dL_law_3130 (lv_at hl 1 rfl) ?_
  refine lv_icmp_eq (tgt := 3137) hx hb dL_law_3132 (by decide) (fun _ => ?_) (fun c_x => absurd rfl c_x)
  refine lv_iload hx hb dL_law_3137 (lv_at hl 1 rfl) ?_
  refine lv_if_ne (tgt := 3155) hx hb dL_law_3139 (by decide) (fun c_1 => ?_) (fun c_1 => ?_)
  · refine lv_goto (tgt := 3946) hx hb dL_law_3155 (by decide) ?_
    refine W.widen (k := cells + 200) (n := slots + 5000) (by first | exact Nat.le_of_eq (Nat.add_assoc _ _ _) | omega) (by first | exact Nat.le_of_eq (Nat.add_assoc _ _ _) | omega) ?_
    exact kk n9 sv9 S9 ((gX2_day T p0).2) _ _ ls (rel_day hR h9) hP hD hS (lv_sub hl [2, 3, 4, 5, 6] rfl)
  · refine lv_aload_n hx hb dL_law_3142 rfl (lv_at hl 5 rfl) ?_
    refine va_getN (D := gD G) (cl := vwCl) (tys := gT G) (ci := 3) (v := .long n9) (C := RX1) (T := TX1) (N := 2) hx hb hw inB_X1 hown hE.K hP 5 rfl rfl 0 (by decide) (va_Nw.use rfl hN.2.1) (fun _ h9 => h9) rfl dL_law_3143 ?_
    refine lv_iload hx hb dL_law_3146 (lv_at hl 0 rfl) ?_
    refine lv_i2l (v := (((gX2_day T p0).1).toInt64)) hx hb dL_law_3148 (by first | rfl | decide) ?_
    refine W.lcmp hx hb dL_law_3149 ?_
    refine lv_if_eq (tgt := 3155) hx hb dL_law_3150 (by decide) (fun _ => ?_) (fun c_x => absurd (lgc_eq.mpr (by rw [hc9.2 c_1])) c_x)
    refine lv_goto (tgt := 3946) hx hb dL_law_3155 (by decide) ?_
    refine W.widen (k := cells + 200) (n := slots + 5000) (by first | exact Nat.le_of_eq (Nat.add_assoc _ _ _) | omega) (by first | exact Nat.le_of_eq (Nat.add_assoc _ _ _) | omega) ?_
    exact kk n9 sv9 S9 ((gX2_day T p0).2) _ _ ls (rel_day hR h9) hP hD hS (lv_sub hl [2, 3, 4, 5, 6] rfl)

set_option maxRecDepth 100000 in
set_option maxHeartbeats 4000000 in
theorem case_secondOfDay {p : Program} {l : Launch} {e : Env} {s : State} {m : MethodId} {below : List Frame} {meth : Method} {c : Code} {Q : State → Prop} {G : GT} {b9 L9 : Nat} {xs : Nat → Int32} {a bb : Nat → Nat} {o : Nat} (Z : LW p l s m meth c G b9 L9 xs) {i cells slots : Nat} (hi : i + 6 ≤ L9) (hf : cells + 200 ≤ room_1.cells ∧ slots + 5000 ≤ room_1.slots) {n : Int64} {sv : Value} {S : SX} {T : SM} (hR : Rel S T) {H : Heap} {locs : List Loc} {ls : Array Slot} (hP : va_P (gD G) vwCl (wM G bb T ++ wH G a o n sv S) H) (hD : va_D (fun q : Nat => s.heap.size ≤ q) (wM G bb T ++ wH G a o n sv S)) (hS : va_S (fun q : Nat => s.heap.size ≤ q) s.heap H locs) (hl : lv_has ls 7 [(0, .ref b9), (1, .ref (a 0)), (2, .ref (bb 0)), (3, .ref o), (4, .int (nI i))]) (kk : ∀ (n : Int64) (sv : Value) (S : SX) (T : SM) (H : Heap) (locs : List Loc) (ls : Array Slot), Rel S T → va_P (gD G) vwCl (wM G bb T ++ wH G a o n sv S) H → va_D (fun q : Nat => s.heap.size ≤ q) (wM G bb T ++ wH G a o n sv S) → va_S (fun q : Nat => s.heap.size ≤ q) s.heap H locs → lv_has ls 7 [(0, .ref b9), (1, .ref (a 0)), (2, .ref (bb 0)), (3, .ref o), (4, .int (nI i))] → W p l e room_1 s m #[Value.ref b9] below meth c H locs (cells + 200) (slots + 5000) Q (F0 m 3946 ls [])) : W p l e room_1 s m #[Value.ref b9] below meth c H locs (cells) (slots) Q (F0 m 3158 ls []) := by
  obtain ⟨C, hE, hN, hX, hbl, hl9, hL9, hA, hAB, hbA⟩ := Z
  have hx := C.1
  have hb := C.2.1
  have hml := C.2.2.1
  have hown := C.2.2.2.1
  have hw := C.2.2.2.2
  obtain ⟨hf0, hf1, hf2⟩ := lw_hf hf
  have hf3 := hf2
  obtain ⟨p0, hp0⟩ : ∃ y : Int32, xs (nI (i + 1)).toNatClampNeg = y := ⟨_, rfl⟩
  refine lv_aload_n hx hb dL_law_3158 rfl (lv_at hl 1 rfl) ?_
  refine lv_aload_n hx hb dL_law_3159 rfl (lv_at hl 0 rfl) ?_
  refine lv_iload hx hb dL_law_3160 (lv_at hl 4 rfl) ?_
  refine lv_iconst (v := (1 : Int32)) hx hb dL_law_3162 qi_1 ?_
  refine lv_iadd hx hb dL_law_3163 ?_
  refine k_foldi (y := (nI (i + 1))) (nI_add i 1) ?_
  refine va_sld hx hb hX hbl hbA hS (lw_in hi hL9 rfl) dL_law_3164 ?_
  refine k_foldi (y := p0) hp0 ?_
  refine lv_aload_n hx hb dL_law_3165 rfl (lv_at hl 3 rfl) ?_
  refine lwHelp (n := 3) (wr := (wM G bb T)) (wd := (wH G a o n sv S)) (as := [.ref (a 0), .int p0, .ref o]) (rest := []) C (k_secondOfDay l hl9 G a o n sv S p0) bw755 bw56 (by decide +kernel) rfl bw753 bw754 hN (hE.S hS hAB) hP hD hS hA hAB hl.1 dL_law_3166 ⟨(Nat.le_of_ble_eq_true rfl), (Nat.le_of_ble_eq_true rfl)⟩ rfl (Nat.le_of_ble_eq_true rfl) hf1 (fun r9 wd9 H locs hp9 hP hD hS => ?_)
  obtain ⟨c9, n9, sv9, S9, rfl, rfl, h9⟩ := hp9
  refine W.eq (g2 := F0 m 3169 ls [.int c9]) rfl ?_
  refine lv_istore (lv' := [(5, .int c9), (0, .ref b9), (1, .ref (a 0)), (2, .ref (bb 0)), (3, .ref o), (4, .int (nI i))]) hx hb dL_law_3169 hl (Nat.le_of_ble_eq_true rfl) rfl (fun ls hl => ?_)
  refine lv_aload_n hx hb dL_law_3171 rfl (lv_at hl 3 rfl) ?_
  refine lv_aload_n hx hb dL_law_3172 rfl (lv_at hl 1 rfl) ?_
  refine lv_iload hx hb dL_law_3173 (lv_at hl 5 rfl) ?_
  refine lv_iconst (v := (1 : Int32)) hx hb dL_law_3175 qi_1 ?_
  refine lv_iadd hx hb dL_law_3176 ?_
  refine k_foldi (y := (nI (i + 1))) (nI_add i 1) ?_
  refine va_sld hx hb hX hbl hbA hS (lw_in hi hL9 rfl) dL_law_3177 ?_
  refine k_foldi (y := p0) hp0 ?_
  refine lwWR (MC := 170) (MS := 4200) (st1 := [.int ((gX2_secondOfDay T p0).1)]) (wr := (wH G a o n9 sv9 S9)) (wd := (wM G bb T)) (as := [.int p0]) (rest := []) (cl := RX2) (Nat.le_of_ble_eq_true rfl) (Nat.le_of_ble_eq_true rfl) C (c_X2_secondOfDay l G bb T p0 (Rel.mo hR)) F_X2_secondOfDay rfl bw1496 bw1497 bw1498 (hE.S hS hAB) hP hD hS hA hAB (rv4 hE.K (P_tl (wr := (wH G a o n9 sv9 S9)) hP) (q0 := 0) rfl) hl.1 dL_law_3178 ⟨(Nat.le_of_ble_eq_true rfl), (Nat.le_of_ble_eq_true rfl)⟩ rfl (Nat.le_of_ble_eq_true rfl) hf2 rfl (fun H locs hP hD hS => ?_)
  have hc9 := cmp_secondOfDay hR h9
  refine lv_istore (lv' := [(6, .int ((gX2_secondOfDay T p0).1)), (5, .int c9), (0, .ref b9), (1, .ref (a 0)), (2, .ref (bb 0)), (3, .ref o), (4, .int (nI i))]) hx hb dL_law_3181 hl (Nat.le_of_ble_eq_true rfl) rfl (fun ls hl => ?_)
  refine lv_aload_n hx hb dL_law_3183 rfl (lv_at hl 4 rfl) ?_
  refine rcVf (st1 := [.int (fX2_thrown ((gX2_secondOfDay T p0).2))]) (as := []) (rest := []) (cl := RX2) C (c_X2_thrown l G bb ((gX2_secondOfDay T p0).2)) F_X2_thrown rfl bw1200 bw1201 (hw _ bw1202) (hE.S hS hAB) (P_hd hP) (rv4 hE.K (P_hd hP) (q0 := 0) rfl) hl.1 dL_law_3184 ⟨Nat.le_of_ble_eq_true rfl, Nat.le_of_ble_eq_true rfl⟩ rfl (Nat.le_of_ble_eq_true rfl) hf3 rfl ?_
  refine k_foldi (y := c9) hc9.1 ?_
  refine lv_iload hx hb dL_law_3187 (lv_at hl 1 rfl) ?_
  refine lv_icmp_eq (tgt := 3194) hx hb dL_law_3189 (by decide) (fun _ => ?_) (fun c_x => absurd rfl c_x)
  refine lv_iload hx hb dL_law_3194 (lv_at hl 1 rfl) ?_
  refine lv_if_ne (tgt := 3212) hx hb dL_law_3196 (by decide) (fun c_1 => ?_) (fun c_1 => ?_)
  · refine lv_goto (tgt := 3946) hx hb dL_law_3212 (by decide) ?_
    refine W.widen (k := cells + 200) (n := slots + 5000) (by first | exact Nat.le_of_eq (Nat.add_assoc _ _ _) | omega) (by first | exact Nat.le_of_eq (Nat.add_assoc _ _ _) | omega) ?_
    exact kk n9 sv9 S9 ((gX2_secondOfDay T p0).2) _ _ ls (rel_secondOfDay hR h9) hP hD hS (lv_sub hl [2, 3, 4, 5, 6] rfl)
  · refine lv_aload_n hx hb dL_law_3199 rfl (lv_at hl 5 rfl) ?_
    refine va_getN (D := gD G) (cl := vwCl) (tys := gT G) (ci := 3) (v := .long n9) (C := RX1) (T := TX1) (N := 2) hx hb hw inB_X1 hown hE.K hP 5 rfl rfl 0 (by decide) (va_Nw.use rfl hN.2.1) (fun _ h9 => h9) rfl dL_law_3200 ?_
    refine lv_iload hx hb dL_law_3203 (lv_at hl 0 rfl) ?_
    refine lv_i2l (v := (((gX2_secondOfDay T p0).1).toInt64)) hx hb dL_law_3205 (by first | rfl | decide) ?_
    refine W.lcmp hx hb dL_law_3206 ?_
    refine lv_if_eq (tgt := 3212) hx hb dL_law_3207 (by decide) (fun _ => ?_) (fun c_x => absurd (lgc_eq.mpr (by rw [hc9.2 c_1])) c_x)
    refine lv_goto (tgt := 3946) hx hb dL_law_3212 (by decide) ?_
    refine W.widen (k := cells + 200) (n := slots + 5000) (by first | exact Nat.le_of_eq (Nat.add_assoc _ _ _) | omega) (by first | exact Nat.le_of_eq (Nat.add_assoc _ _ _) | omega) ?_
    exact kk n9 sv9 S9 ((gX2_secondOfDay T p0).2) _ _ ls (rel_secondOfDay hR h9) hP hD hS (lv_sub hl [2, 3, 4, 5, 6] rfl)

set_option maxRecDepth 100000 in
set_option maxHeartbeats 4000000 in
theorem case_lengthOfMonth {p : Program} {l : Launch} {e : Env} {s : State} {m : MethodId} {below : List Frame} {meth : Method} {c : Code} {Q : State → Prop} {G : GT} {b9 L9 : Nat} {xs : Nat → Int32} {a bb : Nat → Nat} {o : Nat} (Z : LW p l s m meth c G b9 L9 xs) {i cells slots : Nat} (hi : i + 6 ≤ L9) (hf : cells + 200 ≤ room_1.cells ∧ slots + 5000 ≤ room_1.slots) {n : Int64} {sv : Value} {S : SX} {T : SM} (hR : Rel S T) {H : Heap} {locs : List Loc} {ls : Array Slot} (hP : va_P (gD G) vwCl (wM G bb T ++ wH G a o n sv S) H) (hD : va_D (fun q : Nat => s.heap.size ≤ q) (wM G bb T ++ wH G a o n sv S)) (hS : va_S (fun q : Nat => s.heap.size ≤ q) s.heap H locs) (hl : lv_has ls 7 [(0, .ref b9), (1, .ref (a 0)), (2, .ref (bb 0)), (3, .ref o), (4, .int (nI i))]) (kk : ∀ (n : Int64) (sv : Value) (S : SX) (T : SM) (H : Heap) (locs : List Loc) (ls : Array Slot), Rel S T → va_P (gD G) vwCl (wM G bb T ++ wH G a o n sv S) H → va_D (fun q : Nat => s.heap.size ≤ q) (wM G bb T ++ wH G a o n sv S) → va_S (fun q : Nat => s.heap.size ≤ q) s.heap H locs → lv_has ls 7 [(0, .ref b9), (1, .ref (a 0)), (2, .ref (bb 0)), (3, .ref o), (4, .int (nI i))] → W p l e room_1 s m #[Value.ref b9] below meth c H locs (cells + 200) (slots + 5000) Q (F0 m 3946 ls [])) : W p l e room_1 s m #[Value.ref b9] below meth c H locs (cells) (slots) Q (F0 m 3215 ls []) := by
  obtain ⟨C, hE, hN, hX, hbl, hl9, hL9, hA, hAB, hbA⟩ := Z
  have hx := C.1
  have hb := C.2.1
  have hml := C.2.2.1
  have hown := C.2.2.2.1
  have hw := C.2.2.2.2
  obtain ⟨hf0, hf1, hf2⟩ := lw_hf hf
  have hf3 := hf2
  obtain ⟨p0, hp0⟩ : ∃ y : Int32, xs (nI (i + 1)).toNatClampNeg = y := ⟨_, rfl⟩
  refine lv_aload_n hx hb dL_law_3215 rfl (lv_at hl 1 rfl) ?_
  refine lv_aload_n hx hb dL_law_3216 rfl (lv_at hl 0 rfl) ?_
  refine lv_iload hx hb dL_law_3217 (lv_at hl 4 rfl) ?_
  refine lv_iconst (v := (1 : Int32)) hx hb dL_law_3219 qi_1 ?_
  refine lv_iadd hx hb dL_law_3220 ?_
  refine k_foldi (y := (nI (i + 1))) (nI_add i 1) ?_
  refine va_sld hx hb hX hbl hbA hS (lw_in hi hL9 rfl) dL_law_3221 ?_
  refine k_foldi (y := p0) hp0 ?_
  refine lv_aload_n hx hb dL_law_3222 rfl (lv_at hl 3 rfl) ?_
  refine lwHelp (n := 3) (wr := (wM G bb T)) (wd := (wH G a o n sv S)) (as := [.ref (a 0), .int p0, .ref o]) (rest := []) C (k_lengthOfMonth l hl9 G a o n sv S p0) bw762 bw56 (by decide +kernel) rfl bw760 bw761 hN (hE.S hS hAB) hP hD hS hA hAB hl.1 dL_law_3223 ⟨(Nat.le_of_ble_eq_true rfl), (Nat.le_of_ble_eq_true rfl)⟩ rfl (Nat.le_of_ble_eq_true rfl) hf1 (fun r9 wd9 H locs hp9 hP hD hS => ?_)
  obtain ⟨c9, n9, sv9, S9, rfl, rfl, h9⟩ := hp9
  refine W.eq (g2 := F0 m 3226 ls [.int c9]) rfl ?_
  refine lv_istore (lv' := [(5, .int c9), (0, .ref b9), (1, .ref (a 0)), (2, .ref (bb 0)), (3, .ref o), (4, .int (nI i))]) hx hb dL_law_3226 hl (Nat.le_of_ble_eq_true rfl) rfl (fun ls hl => ?_)
  refine lv_aload_n hx hb dL_law_3228 rfl (lv_at hl 3 rfl) ?_
  refine lv_aload_n hx hb dL_law_3229 rfl (lv_at hl 1 rfl) ?_
  refine lv_iload hx hb dL_law_3230 (lv_at hl 5 rfl) ?_
  refine lv_iconst (v := (1 : Int32)) hx hb dL_law_3232 qi_1 ?_
  refine lv_iadd hx hb dL_law_3233 ?_
  refine k_foldi (y := (nI (i + 1))) (nI_add i 1) ?_
  refine va_sld hx hb hX hbl hbA hS (lw_in hi hL9 rfl) dL_law_3234 ?_
  refine k_foldi (y := p0) hp0 ?_
  refine lwWR (MC := 170) (MS := 4200) (st1 := [.int ((gX2_lengthOfMonth T p0).1)]) (wr := (wH G a o n9 sv9 S9)) (wd := (wM G bb T)) (as := [.int p0]) (rest := []) (cl := RX2) (Nat.le_of_ble_eq_true rfl) (Nat.le_of_ble_eq_true rfl) C (c_X2_lengthOfMonth l G bb T p0 (Rel.mo hR)) F_X2_lengthOfMonth rfl bw1501 bw1502 bw1503 (hE.S hS hAB) hP hD hS hA hAB (rv4 hE.K (P_tl (wr := (wH G a o n9 sv9 S9)) hP) (q0 := 0) rfl) hl.1 dL_law_3235 ⟨(Nat.le_of_ble_eq_true rfl), (Nat.le_of_ble_eq_true rfl)⟩ rfl (Nat.le_of_ble_eq_true rfl) hf2 rfl (fun H locs hP hD hS => ?_)
  have hc9 := cmp_lengthOfMonth hR h9
  refine lv_istore (lv' := [(6, .int ((gX2_lengthOfMonth T p0).1)), (5, .int c9), (0, .ref b9), (1, .ref (a 0)), (2, .ref (bb 0)), (3, .ref o), (4, .int (nI i))]) hx hb dL_law_3238 hl (Nat.le_of_ble_eq_true rfl) rfl (fun ls hl => ?_)
  refine lv_aload_n hx hb dL_law_3240 rfl (lv_at hl 4 rfl) ?_
  refine rcVf (st1 := [.int (fX2_thrown ((gX2_lengthOfMonth T p0).2))]) (as := []) (rest := []) (cl := RX2) C (c_X2_thrown l G bb ((gX2_lengthOfMonth T p0).2)) F_X2_thrown rfl bw1200 bw1201 (hw _ bw1202) (hE.S hS hAB) (P_hd hP) (rv4 hE.K (P_hd hP) (q0 := 0) rfl) hl.1 dL_law_3241 ⟨Nat.le_of_ble_eq_true rfl, Nat.le_of_ble_eq_true rfl⟩ rfl (Nat.le_of_ble_eq_true rfl) hf3 rfl ?_
  refine k_foldi (y := c9) hc9.1 ?_
  refine lv_iload hx hb dL_law_3244 (lv_at hl 1 rfl) ?_
  refine lv_icmp_eq (tgt := 3251) hx hb dL_law_3246 (by decide) (fun _ => ?_) (fun c_x => absurd rfl c_x)
  refine lv_iload hx hb dL_law_3251 (lv_at hl 1 rfl) ?_
  refine lv_if_ne (tgt := 3269) hx hb dL_law_3253 (by decide) (fun c_1 => ?_) (fun c_1 => ?_)
  · refine lv_goto (tgt := 3946) hx hb dL_law_3269 (by decide) ?_
    refine W.widen (k := cells + 200) (n := slots + 5000) (by first | exact Nat.le_of_eq (Nat.add_assoc _ _ _) | omega) (by first | exact Nat.le_of_eq (Nat.add_assoc _ _ _) | omega) ?_
    exact kk n9 sv9 S9 ((gX2_lengthOfMonth T p0).2) _ _ ls (rel_lengthOfMonth hR h9) hP hD hS (lv_sub hl [2, 3, 4, 5, 6] rfl)
  · refine lv_aload_n hx hb dL_law_3256 rfl (lv_at hl 5 rfl) ?_
    refine va_getN (D := gD G) (cl := vwCl) (tys := gT G) (ci := 3) (v := .long n9) (C := RX1) (T := TX1) (N := 2) hx hb hw inB_X1 hown hE.K hP 5 rfl rfl 0 (by decide) (va_Nw.use rfl hN.2.1) (fun _ h9 => h9) rfl dL_law_3257 ?_
    refine lv_iload hx hb dL_law_3260 (lv_at hl 0 rfl) ?_
    refine lv_i2l (v := (((gX2_lengthOfMonth T p0).1).toInt64)) hx hb dL_law_3262 (by first | rfl | decide) ?_
    refine W.lcmp hx hb dL_law_3263 ?_
    refine lv_if_eq (tgt := 3269) hx hb dL_law_3264 (by decide) (fun _ => ?_) (fun c_x => absurd (lgc_eq.mpr (by rw [hc9.2 c_1])) c_x)
    refine lv_goto (tgt := 3946) hx hb dL_law_3269 (by decide) ?_
    refine W.widen (k := cells + 200) (n := slots + 5000) (by first | exact Nat.le_of_eq (Nat.add_assoc _ _ _) | omega) (by first | exact Nat.le_of_eq (Nat.add_assoc _ _ _) | omega) ?_
    exact kk n9 sv9 S9 ((gX2_lengthOfMonth T p0).2) _ _ ls (rel_lengthOfMonth hR h9) hP hD hS (lv_sub hl [2, 3, 4, 5, 6] rfl)

set_option maxRecDepth 100000 in
set_option maxHeartbeats 4000000 in
theorem case_nanoOfDay {p : Program} {l : Launch} {e : Env} {s : State} {m : MethodId} {below : List Frame} {meth : Method} {c : Code} {Q : State → Prop} {G : GT} {b9 L9 : Nat} {xs : Nat → Int32} {a bb : Nat → Nat} {o : Nat} (Z : LW p l s m meth c G b9 L9 xs) {i cells slots : Nat} (hi : i + 6 ≤ L9) (hf : cells + 200 ≤ room_1.cells ∧ slots + 5000 ≤ room_1.slots) {n : Int64} {sv : Value} {S : SX} {T : SM} (hR : Rel S T) {H : Heap} {locs : List Loc} {ls : Array Slot} (hP : va_P (gD G) vwCl (wM G bb T ++ wH G a o n sv S) H) (hD : va_D (fun q : Nat => s.heap.size ≤ q) (wM G bb T ++ wH G a o n sv S)) (hS : va_S (fun q : Nat => s.heap.size ≤ q) s.heap H locs) (hl : lv_has ls 7 [(0, .ref b9), (1, .ref (a 0)), (2, .ref (bb 0)), (3, .ref o), (4, .int (nI i))]) (kk : ∀ (n : Int64) (sv : Value) (S : SX) (T : SM) (H : Heap) (locs : List Loc) (ls : Array Slot), Rel S T → va_P (gD G) vwCl (wM G bb T ++ wH G a o n sv S) H → va_D (fun q : Nat => s.heap.size ≤ q) (wM G bb T ++ wH G a o n sv S) → va_S (fun q : Nat => s.heap.size ≤ q) s.heap H locs → lv_has ls 7 [(0, .ref b9), (1, .ref (a 0)), (2, .ref (bb 0)), (3, .ref o), (4, .int (nI i))] → W p l e room_1 s m #[Value.ref b9] below meth c H locs (cells + 200) (slots + 5000) Q (F0 m 3946 ls [])) : W p l e room_1 s m #[Value.ref b9] below meth c H locs (cells) (slots) Q (F0 m 3272 ls []) := by
  obtain ⟨C, hE, hN, hX, hbl, hl9, hL9, hA, hAB, hbA⟩ := Z
  have hx := C.1
  have hb := C.2.1
  have hml := C.2.2.1
  have hown := C.2.2.2.1
  have hw := C.2.2.2.2
  obtain ⟨hf0, hf1, hf2⟩ := lw_hf hf
  have hf3 := hf2
  obtain ⟨p0, hp0⟩ : ∃ y : Int32, xs (nI (i + 1)).toNatClampNeg = y := ⟨_, rfl⟩
  refine lv_aload_n hx hb dL_law_3272 rfl (lv_at hl 1 rfl) ?_
  refine lv_aload_n hx hb dL_law_3273 rfl (lv_at hl 0 rfl) ?_
  refine lv_iload hx hb dL_law_3274 (lv_at hl 4 rfl) ?_
  refine lv_iconst (v := (1 : Int32)) hx hb dL_law_3276 qi_1 ?_
  refine lv_iadd hx hb dL_law_3277 ?_
  refine k_foldi (y := (nI (i + 1))) (nI_add i 1) ?_
  refine va_sld hx hb hX hbl hbA hS (lw_in hi hL9 rfl) dL_law_3278 ?_
  refine k_foldi (y := p0) hp0 ?_
  refine lv_aload_n hx hb dL_law_3279 rfl (lv_at hl 3 rfl) ?_
  refine lwHelp (n := 3) (wr := (wM G bb T)) (wd := (wH G a o n sv S)) (as := [.ref (a 0), .int p0, .ref o]) (rest := []) C (k_nanoOfDay l hl9 G a o n sv S p0) bw769 bw56 (by decide +kernel) rfl bw767 bw768 hN (hE.S hS hAB) hP hD hS hA hAB hl.1 dL_law_3280 ⟨(Nat.le_of_ble_eq_true rfl), (Nat.le_of_ble_eq_true rfl)⟩ rfl (Nat.le_of_ble_eq_true rfl) hf1 (fun r9 wd9 H locs hp9 hP hD hS => ?_)
  obtain ⟨c9, n9, sv9, S9, ws9, rfl, rfl, h9, ht9⟩ := hp9
  refine W.eq (g2 := F0 m 3283 ls [.int c9]) rfl ?_
  refine lv_istore (lv' := [(5, .int c9), (0, .ref b9), (1, .ref (a 0)), (2, .ref (bb 0)), (3, .ref o), (4, .int (nI i))]) hx hb dL_law_3283 hl (Nat.le_of_ble_eq_true rfl) rfl (fun ls hl => ?_)
  refine lv_aload_n hx hb dL_law_3285 rfl (lv_at hl 3 rfl) ?_
  refine lv_aload_n hx hb dL_law_3286 rfl (lv_at hl 1 rfl) ?_
  refine lv_iload hx hb dL_law_3287 (lv_at hl 5 rfl) ?_
  refine lv_iconst (v := (1 : Int32)) hx hb dL_law_3289 qi_1 ?_
  refine lv_iadd hx hb dL_law_3290 ?_
  refine k_foldi (y := (nI (i + 1))) (nI_add i 1) ?_
  refine va_sld hx hb hX hbl hbA hS (lw_in hi hL9 rfl) dL_law_3291 ?_
  refine k_foldi (y := p0) hp0 ?_
  refine lwWE (MC := 170) (MS := 4200) (wr := (wH G a o n9 sv9 S9 ++ ws9)) (wd := (wM G bb T)) (as := [.int p0]) (rest := []) (cl := RX2) (Nat.le_of_ble_eq_true rfl) (Nat.le_of_ble_eq_true rfl) C (u_nanoOfDay l G bb T p0 (Rel.mo hR)) F_X2_nanoOfDay rfl bw1505 bw1506 bw1507 (hE.S hS hAB) hP hD hS hA hAB (rv4 hE.K (P_tl (wr := (wH G a o n9 sv9 S9 ++ ws9)) hP) (q0 := 0) rfl) hl.1 dL_law_3292 ⟨(Nat.le_of_ble_eq_true rfl), (Nat.le_of_ble_eq_true rfl)⟩ rfl (Nat.le_of_ble_eq_true rfl) hf2 (fun r9 wd9 H locs hp9 hP hD hS => ?_)
  obtain ⟨q8, ws8, rfl, rfl, ht8⟩ := hp9
  refine W.eq (g2 := F0 m 3295 ls [.ref q8]) rfl ?_
  have hc9 := cmp_nanoOfDay hR h9
  refine lv_astore (lv' := [(6, .ref q8), (5, .int c9), (0, .ref b9), (1, .ref (a 0)), (2, .ref (bb 0)), (3, .ref o), (4, .int (nI i))]) hx hb dL_law_3295 hl (Nat.le_of_ble_eq_true rfl) rfl (fun ls hl => ?_)
  refine lv_aload_n hx hb dL_law_3297 rfl (lv_at hl 4 rfl) ?_
  refine rcVf (st1 := [.int (fX2_thrown (gX2_nanoOfDay T p0))]) (as := []) (rest := []) (cl := RX2) C (c_X2_thrown l G bb (gX2_nanoOfDay T p0)) F_X2_thrown rfl bw1200 bw1201 (hw _ bw1202) (hE.S hS hAB) (P_hd (P_hd hP)) (rv4 hE.K (P_hd hP) (q0 := 0) rfl) hl.1 dL_law_3298 ⟨Nat.le_of_ble_eq_true rfl, Nat.le_of_ble_eq_true rfl⟩ rfl (Nat.le_of_ble_eq_true rfl) hf3 rfl ?_
  refine k_foldi (y := c9) hc9.1 ?_
  refine lv_iload hx hb dL_law_3301 (lv_at hl 1 rfl) ?_
  refine lv_icmp_eq (tgt := 3308) hx hb dL_law_3303 (by decide) (fun _ => ?_) (fun c_x => absurd rfl c_x)
  refine lv_iload hx hb dL_law_3308 (lv_at hl 1 rfl) ?_
  refine lv_if_ne (tgt := 3327) hx hb dL_law_3310 (by decide) (fun c_1 => ?_) (fun c_1 => ?_)
  · refine lv_goto (tgt := 3946) hx hb dL_law_3327 (by decide) ?_
    have hP := P_mid hP
    have hD := D_mid hD
    refine W.widen (k := cells + 200) (n := slots + 5000) (by first | exact Nat.le_of_eq (Nat.add_assoc _ _ _) | omega) (by first | exact Nat.le_of_eq (Nat.add_assoc _ _ _) | omega) ?_
    exact kk n9 sv9 S9 (gX2_nanoOfDay T p0) _ _ ls (rel_nanoOfDay hR h9) hP hD hS (lv_sub hl [2, 3, 4, 5, 6] rfl)
  · refine lv_aload_n hx hb dL_law_3313 rfl (lv_at hl 5 rfl) ?_
    obtain ⟨q9, rfl, ht7⟩ := ht9 c_1
    have hP := P_swap hP
    have hD := D_swap hD
    refine va_getN (D := gD G) (cl := vwCl) (tys := gT G) (ci := 3) (v := .ref q9) (C := RX1) (T := TX1) (N := 2) hx hb hw inB_X1 hown hE.K hP 0 rfl rfl 1 (by decide) (va_Nw.use rfl hN.2.2) (fun _ h9 => h9) rfl dL_law_3314 ?_
    refine lv_aload hx hb dL_law_3317 (lv_at hl 0 rfl) ?_
    refine rcVf (st1 := [.int (1 : Int32)]) (as := [.ref q8]) (rest := []) (cl := RJ0) C (eq_text l G ht7 (ht8.cg (hc9.2 c_1).symm)) F_J0_equals_9ea2d rfl bw1631 bw1632 (hw _ bw1633) (hE.S hS hAB) (va_P.app (P_tl (P_hd hP)) (P_tl (P_tl hP))) (ht7.recv (hE.S hS hAB) (P_tl (P_hd hP))) hl.1 dL_law_3319 ⟨Nat.le_of_ble_eq_true rfl, Nat.le_of_ble_eq_true rfl⟩ rfl (Nat.le_of_ble_eq_true rfl) hf3 rfl ?_
    refine lv_if_ne (tgt := 3327) hx hb dL_law_3322 (by decide) (fun _ => ?_) (fun c_x => absurd c_x (by decide))
    refine lv_goto (tgt := 3946) hx hb dL_law_3327 (by decide) ?_
    have hP := P_swap (P_mid hP)
    have hD := D_swap (D_mid hD)
    refine W.widen (k := cells + 200) (n := slots + 5000) (by first | exact Nat.le_of_eq (Nat.add_assoc _ _ _) | omega) (by first | exact Nat.le_of_eq (Nat.add_assoc _ _ _) | omega) ?_
    exact kk n9 (.ref q9) S9 (gX2_nanoOfDay T p0) _ _ ls (rel_nanoOfDay hR h9) hP hD hS (lv_sub hl [2, 3, 4, 5, 6] rfl)

set_option maxRecDepth 100000 in
set_option maxHeartbeats 4000000 in
theorem case_isLeap {p : Program} {l : Launch} {e : Env} {s : State} {m : MethodId} {below : List Frame} {meth : Method} {c : Code} {Q : State → Prop} {G : GT} {b9 L9 : Nat} {xs : Nat → Int32} {a bb : Nat → Nat} {o : Nat} (Z : LW p l s m meth c G b9 L9 xs) {i cells slots : Nat} (hi : i + 6 ≤ L9) (hf : cells + 200 ≤ room_1.cells ∧ slots + 5000 ≤ room_1.slots) {n : Int64} {sv : Value} {S : SX} {T : SM} (hR : Rel S T) {H : Heap} {locs : List Loc} {ls : Array Slot} (hP : va_P (gD G) vwCl (wM G bb T ++ wH G a o n sv S) H) (hD : va_D (fun q : Nat => s.heap.size ≤ q) (wM G bb T ++ wH G a o n sv S)) (hS : va_S (fun q : Nat => s.heap.size ≤ q) s.heap H locs) (hl : lv_has ls 7 [(0, .ref b9), (1, .ref (a 0)), (2, .ref (bb 0)), (3, .ref o), (4, .int (nI i))]) (kk : ∀ (n : Int64) (sv : Value) (S : SX) (T : SM) (H : Heap) (locs : List Loc) (ls : Array Slot), Rel S T → va_P (gD G) vwCl (wM G bb T ++ wH G a o n sv S) H → va_D (fun q : Nat => s.heap.size ≤ q) (wM G bb T ++ wH G a o n sv S) → va_S (fun q : Nat => s.heap.size ≤ q) s.heap H locs → lv_has ls 7 [(0, .ref b9), (1, .ref (a 0)), (2, .ref (bb 0)), (3, .ref o), (4, .int (nI i))] → W p l e room_1 s m #[Value.ref b9] below meth c H locs (cells + 200) (slots + 5000) Q (F0 m 3946 ls [])) : W p l e room_1 s m #[Value.ref b9] below meth c H locs (cells) (slots) Q (F0 m 3330 ls []) := by
  obtain ⟨C, hE, hN, hX, hbl, hl9, hL9, hA, hAB, hbA⟩ := Z
  have hx := C.1
  have hb := C.2.1
  have hml := C.2.2.1
  have hown := C.2.2.2.1
  have hw := C.2.2.2.2
  obtain ⟨hf0, hf1, hf2⟩ := lw_hf hf
  have hf3 := hf2
  obtain ⟨p0, hp0⟩ : ∃ y : Int32, xs (nI (i + 1)).toNatClampNeg = y := ⟨_, rfl⟩
  refine lv_aload_n hx hb dL_law_3330 rfl (lv_at hl 1 rfl) ?_
  refine lv_aload_n hx hb dL_law_3331 rfl (lv_at hl 0 rfl) ?_
  refine lv_iload hx hb dL_law_3332 (lv_at hl 4 rfl) ?_
  refine lv_iconst (v := (1 : Int32)) hx hb dL_law_3334 qi_1 ?_
  refine lv_iadd hx hb dL_law_3335 ?_
  refine k_foldi (y := (nI (i + 1))) (nI_add i 1) ?_
  refine va_sld hx hb hX hbl hbA hS (lw_in hi hL9 rfl) dL_law_3336 ?_
  refine k_foldi (y := p0) hp0 ?_
  refine lv_aload_n hx hb dL_law_3337 rfl (lv_at hl 3 rfl) ?_
  refine lwHelp (n := 3) (wr := (wM G bb T)) (wd := (wH G a o n sv S)) (as := [.ref (a 0), .int p0, .ref o]) (rest := []) C (k_isLeap l hl9 G a o n sv S p0) bw1076 bw56 (by decide +kernel) rfl bw1074 bw1075 hN (hE.S hS hAB) hP hD hS hA hAB hl.1 dL_law_3338 ⟨(Nat.le_of_ble_eq_true rfl), (Nat.le_of_ble_eq_true rfl)⟩ rfl (Nat.le_of_ble_eq_true rfl) hf1 (fun r9 wd9 H locs hp9 hP hD hS => ?_)
  obtain ⟨c9, n9, sv9, S9, rfl, rfl, h9⟩ := hp9
  refine W.eq (g2 := F0 m 3341 ls [.int c9]) rfl ?_
  refine lv_istore (lv' := [(5, .int c9), (0, .ref b9), (1, .ref (a 0)), (2, .ref (bb 0)), (3, .ref o), (4, .int (nI i))]) hx hb dL_law_3341 hl (Nat.le_of_ble_eq_true rfl) rfl (fun ls hl => ?_)
  refine lv_aload_n hx hb dL_law_3343 rfl (lv_at hl 3 rfl) ?_
  refine lv_aload_n hx hb dL_law_3344 rfl (lv_at hl 1 rfl) ?_
  refine lv_iload hx hb dL_law_3345 (lv_at hl 5 rfl) ?_
  refine lv_iconst (v := (1 : Int32)) hx hb dL_law_3347 qi_1 ?_
  refine lv_iadd hx hb dL_law_3348 ?_
  refine k_foldi (y := (nI (i + 1))) (nI_add i 1) ?_
  refine va_sld hx hb hX hbl hbA hS (lw_in hi hL9 rfl) dL_law_3349 ?_
  refine k_foldi (y := p0) hp0 ?_
  refine lwWR (MC := 170) (MS := 4200) (st1 := [.int ((gX2_isLeap T p0).1)]) (wr := (wH G a o n9 sv9 S9)) (wd := (wM G bb T)) (as := [.int p0]) (rest := []) (cl := RX2) (Nat.le_of_ble_eq_true rfl) (Nat.le_of_ble_eq_true rfl) C (c_X2_isLeap l G bb T p0 (Rel.mo hR)) F_X2_isLeap rfl bw1541 bw1542 bw1543 (hE.S hS hAB) hP hD hS hA hAB (rv4 hE.K (P_tl (wr := (wH G a o n9 sv9 S9)) hP) (q0 := 0) rfl) hl.1 dL_law_3350 ⟨(Nat.le_of_ble_eq_true rfl), (Nat.le_of_ble_eq_true rfl)⟩ rfl (Nat.le_of_ble_eq_true rfl) hf2 rfl (fun H locs hP hD hS => ?_)
  have hc9 := cmp_isLeap hR h9
  refine lv_istore (lv' := [(6, .int ((gX2_isLeap T p0).1)), (5, .int c9), (0, .ref b9), (1, .ref (a 0)), (2, .ref (bb 0)), (3, .ref o), (4, .int (nI i))]) hx hb dL_law_3353 hl (Nat.le_of_ble_eq_true rfl) rfl (fun ls hl => ?_)
  refine lv_aload_n hx hb dL_law_3355 rfl (lv_at hl 4 rfl) ?_
  refine rcVf (st1 := [.int (fX2_thrown ((gX2_isLeap T p0).2))]) (as := []) (rest := []) (cl := RX2) C (c_X2_thrown l G bb ((gX2_isLeap T p0).2)) F_X2_thrown rfl bw1200 bw1201 (hw _ bw1202) (hE.S hS hAB) (P_hd hP) (rv4 hE.K (P_hd hP) (q0 := 0) rfl) hl.1 dL_law_3356 ⟨Nat.le_of_ble_eq_true rfl, Nat.le_of_ble_eq_true rfl⟩ rfl (Nat.le_of_ble_eq_true rfl) hf3 rfl ?_
  refine k_foldi (y := c9) hc9.1 ?_
  refine lv_iload hx hb dL_law_3359 (lv_at hl 1 rfl) ?_
  refine lv_icmp_eq (tgt := 3366) hx hb dL_law_3361 (by decide) (fun _ => ?_) (fun c_x => absurd rfl c_x)
  refine lv_iload hx hb dL_law_3366 (lv_at hl 1 rfl) ?_
  refine lv_if_ne (tgt := 3391) hx hb dL_law_3368 (by decide) (fun c_1 => ?_) (fun c_1 => ?_)
  · refine lv_goto (tgt := 3946) hx hb dL_law_3391 (by decide) ?_
    refine W.widen (k := cells + 200) (n := slots + 5000) (by first | exact Nat.le_of_eq (Nat.add_assoc _ _ _) | omega) (by first | exact Nat.le_of_eq (Nat.add_assoc _ _ _) | omega) ?_
    exact kk n9 sv9 S9 ((gX2_isLeap T p0).2) _ _ ls (rel_isLeap hR h9) hP hD hS (lv_sub hl [2, 3, 4, 5, 6] rfl)
  · refine lv_aload_n hx hb dL_law_3371 rfl (lv_at hl 5 rfl) ?_
    refine va_getN (D := gD G) (cl := vwCl) (tys := gT G) (ci := 3) (v := .long n9) (C := RX1) (T := TX1) (N := 2) hx hb hw inB_X1 hown hE.K hP 5 rfl rfl 0 (by decide) (va_Nw.use rfl hN.2.1) (fun _ h9 => h9) rfl dL_law_3372 ?_
    refine lv_iload hx hb dL_law_3375 (lv_at hl 0 rfl) ?_
    refine lv_if_eq (tgt := 3384) hx hb dL_law_3377 (by decide) (fun c_2 => ?_) (fun c_2 => ?_)
    · refine lv_lconst (v := (0 : Int64)) hx hb dL_law_3384 ql_0 ?_
      refine W.lcmp hx hb dL_law_3385 ?_
      refine lv_if_eq (tgt := 3391) hx hb dL_law_3386 (by decide) (fun _ => ?_) (fun c_x => absurd (lgc_eq.mpr (by rw [hc9.2 c_1, fz9, if_pos c_2])) c_x)
      refine lv_goto (tgt := 3946) hx hb dL_law_3391 (by decide) ?_
      refine W.widen (k := cells + 200) (n := slots + 5000) (by first | exact Nat.le_of_eq (Nat.add_assoc _ _ _) | omega) (by first | exact Nat.le_of_eq (Nat.add_assoc _ _ _) | omega) ?_
      exact kk n9 sv9 S9 ((gX2_isLeap T p0).2) _ _ ls (rel_isLeap hR h9) hP hD hS (lv_sub hl [2, 3, 4, 5, 6] rfl)
    · refine lv_lconst (v := (1 : Int64)) hx hb dL_law_3380 ql_1 ?_
      refine lv_goto (tgt := 3385) hx hb dL_law_3381 (by decide) ?_
      refine W.lcmp hx hb dL_law_3385 ?_
      refine lv_if_eq (tgt := 3391) hx hb dL_law_3386 (by decide) (fun _ => ?_) (fun c_x => absurd (lgc_eq.mpr (by rw [hc9.2 c_1, fz9, if_neg c_2])) c_x)
      refine lv_goto (tgt := 3946) hx hb dL_law_3391 (by decide) ?_
      refine W.widen (k := cells + 200) (n := slots + 5000) (by first | exact Nat.le_of_eq (Nat.add_assoc _ _ _) | omega) (by first | exact Nat.le_of_eq (Nat.add_assoc _ _ _) | omega) ?_
      exact kk n9 sv9 S9 ((gX2_isLeap T p0).2) _ _ ls (rel_isLeap hR h9) hP hD hS (lv_sub hl [2, 3, 4, 5, 6] rfl)

set_option maxRecDepth 100000 in
set_option maxHeartbeats 4000000 in
theorem case_field {p : Program} {l : Launch} {e : Env} {s : State} {m : MethodId} {below : List Frame} {meth : Method} {c : Code} {Q : State → Prop} {G : GT} {b9 L9 : Nat} {xs : Nat → Int32} {a bb : Nat → Nat} {o : Nat} (Z : LW p l s m meth c G b9 L9 xs) {i cells slots : Nat} (hi : i + 6 ≤ L9) (hf : cells + 200 ≤ room_1.cells ∧ slots + 5000 ≤ room_1.slots) {n : Int64} {sv : Value} {S : SX} {T : SM} (hR : Rel S T) {H : Heap} {locs : List Loc} {ls : Array Slot} (hP : va_P (gD G) vwCl (wM G bb T ++ wH G a o n sv S) H) (hD : va_D (fun q : Nat => s.heap.size ≤ q) (wM G bb T ++ wH G a o n sv S)) (hS : va_S (fun q : Nat => s.heap.size ≤ q) s.heap H locs) (hl : lv_has ls 7 [(0, .ref b9), (1, .ref (a 0)), (2, .ref (bb 0)), (3, .ref o), (4, .int (nI i))]) (kk : ∀ (n : Int64) (sv : Value) (S : SX) (T : SM) (H : Heap) (locs : List Loc) (ls : Array Slot), Rel S T → va_P (gD G) vwCl (wM G bb T ++ wH G a o n sv S) H → va_D (fun q : Nat => s.heap.size ≤ q) (wM G bb T ++ wH G a o n sv S) → va_S (fun q : Nat => s.heap.size ≤ q) s.heap H locs → lv_has ls 7 [(0, .ref b9), (1, .ref (a 0)), (2, .ref (bb 0)), (3, .ref o), (4, .int (nI i))] → W p l e room_1 s m #[Value.ref b9] below meth c H locs (cells + 200) (slots + 5000) Q (F0 m 3946 ls [])) : W p l e room_1 s m #[Value.ref b9] below meth c H locs (cells) (slots) Q (F0 m 3394 ls []) := by
  obtain ⟨C, hE, hN, hX, hbl, hl9, hL9, hA, hAB, hbA⟩ := Z
  have hx := C.1
  have hb := C.2.1
  have hml := C.2.2.1
  have hown := C.2.2.2.1
  have hw := C.2.2.2.2
  obtain ⟨hf0, hf1, hf2⟩ := lw_hf hf
  have hf3 := hf2
  obtain ⟨p0, hp0⟩ : ∃ y : Int32, xs (nI (i + 1)).toNatClampNeg = y := ⟨_, rfl⟩
  obtain ⟨p1, hp1⟩ : ∃ y : Int32, xs (nI (i + 2)).toNatClampNeg = y := ⟨_, rfl⟩
  refine lv_aload_n hx hb dL_law_3394 rfl (lv_at hl 1 rfl) ?_
  refine lv_aload_n hx hb dL_law_3395 rfl (lv_at hl 0 rfl) ?_
  refine lv_iload hx hb dL_law_3396 (lv_at hl 4 rfl) ?_
  refine lv_iconst (v := (1 : Int32)) hx hb dL_law_3398 qi_1 ?_
  refine lv_iadd hx hb dL_law_3399 ?_
  refine k_foldi (y := (nI (i + 1))) (nI_add i 1) ?_
  refine va_sld hx hb hX hbl hbA hS (lw_in hi hL9 rfl) dL_law_3400 ?_
  refine k_foldi (y := p0) hp0 ?_
  refine lv_aload_n hx hb dL_law_3401 rfl (lv_at hl 0 rfl) ?_
  refine lv_iload hx hb dL_law_3402 (lv_at hl 4 rfl) ?_
  refine lv_iconst (v := (2 : Int32)) hx hb dL_law_3404 qi_2 ?_
  refine lv_iadd hx hb dL_law_3405 ?_
  refine k_foldi (y := (nI (i + 2))) (nI_add i 2) ?_
  refine va_sld hx hb hX hbl hbA hS (lw_in hi hL9 rfl) dL_law_3406 ?_
  refine k_foldi (y := p1) hp1 ?_
  refine lv_aload_n hx hb dL_law_3407 rfl (lv_at hl 3 rfl) ?_
  refine lwHelp (n := 4) (wr := (wM G bb T)) (wd := (wH G a o n sv S)) (as := [.ref (a 0), .int p0, .int p1, .ref o]) (rest := []) C (k_field l hl9 G a o n sv S p0 p1) bw1083 bw56 (by decide +kernel) rfl bw1081 bw1082 hN (hE.S hS hAB) hP hD hS hA hAB hl.1 dL_law_3408 ⟨(Nat.le_of_ble_eq_true rfl), (Nat.le_of_ble_eq_true rfl)⟩ rfl (Nat.le_of_ble_eq_true rfl) hf1 (fun r9 wd9 H locs hp9 hP hD hS => ?_)
  obtain ⟨c9, n9, sv9, S9, ws9, rfl, rfl, h9, ht9⟩ := hp9
  refine W.eq (g2 := F0 m 3411 ls [.int c9]) rfl ?_
  refine lv_istore (lv' := [(5, .int c9), (0, .ref b9), (1, .ref (a 0)), (2, .ref (bb 0)), (3, .ref o), (4, .int (nI i))]) hx hb dL_law_3411 hl (Nat.le_of_ble_eq_true rfl) rfl (fun ls hl => ?_)
  refine lv_aload_n hx hb dL_law_3413 rfl (lv_at hl 3 rfl) ?_
  refine lv_aload_n hx hb dL_law_3414 rfl (lv_at hl 1 rfl) ?_
  refine lv_iload hx hb dL_law_3415 (lv_at hl 5 rfl) ?_
  refine lv_iconst (v := (1 : Int32)) hx hb dL_law_3417 qi_1 ?_
  refine lv_iadd hx hb dL_law_3418 ?_
  refine k_foldi (y := (nI (i + 1))) (nI_add i 1) ?_
  refine va_sld hx hb hX hbl hbA hS (lw_in hi hL9 rfl) dL_law_3419 ?_
  refine k_foldi (y := p0) hp0 ?_
  refine lv_aload_n hx hb dL_law_3420 rfl (lv_at hl 1 rfl) ?_
  refine lv_iload hx hb dL_law_3421 (lv_at hl 5 rfl) ?_
  refine lv_iconst (v := (2 : Int32)) hx hb dL_law_3423 qi_2 ?_
  refine lv_iadd hx hb dL_law_3424 ?_
  refine k_foldi (y := (nI (i + 2))) (nI_add i 2) ?_
  refine va_sld hx hb hX hbl hbA hS (lw_in hi hL9 rfl) dL_law_3425 ?_
  refine k_foldi (y := p1) hp1 ?_
  refine lwWE (MC := 170) (MS := 4200) (wr := (wH G a o n9 sv9 S9 ++ ws9)) (wd := (wM G bb T)) (as := [.int p0, .int p1]) (rest := []) (cl := RX2) (Nat.le_of_ble_eq_true rfl) (Nat.le_of_ble_eq_true rfl) C (u_field l G bb T p0 p1 (Rel.mo hR)) F_X2_field rfl bw1545 bw1546 bw1547 (hE.S hS hAB) hP hD hS hA hAB (rv4 hE.K (P_tl (wr := (wH G a o n9 sv9 S9 ++ ws9)) hP) (q0 := 0) rfl) hl.1 dL_law_3426 ⟨(Nat.le_of_ble_eq_true rfl), (Nat.le_of_ble_eq_true rfl)⟩ rfl (Nat.le_of_ble_eq_true rfl) hf2 (fun r9 wd9 H locs hp9 hP hD hS => ?_)
  obtain ⟨q8, ws8, rfl, rfl, ht8⟩ := hp9
  refine W.eq (g2 := F0 m 3429 ls [.ref q8]) rfl ?_
  have hc9 := cmp_field hR h9
  refine lv_astore (lv' := [(6, .ref q8), (5, .int c9), (0, .ref b9), (1, .ref (a 0)), (2, .ref (bb 0)), (3, .ref o), (4, .int (nI i))]) hx hb dL_law_3429 hl (Nat.le_of_ble_eq_true rfl) rfl (fun ls hl => ?_)
  refine lv_aload_n hx hb dL_law_3431 rfl (lv_at hl 4 rfl) ?_
  refine rcVf (st1 := [.int (fX2_thrown (gX2_field T p0 p1))]) (as := []) (rest := []) (cl := RX2) C (c_X2_thrown l G bb (gX2_field T p0 p1)) F_X2_thrown rfl bw1200 bw1201 (hw _ bw1202) (hE.S hS hAB) (P_hd (P_hd hP)) (rv4 hE.K (P_hd hP) (q0 := 0) rfl) hl.1 dL_law_3432 ⟨Nat.le_of_ble_eq_true rfl, Nat.le_of_ble_eq_true rfl⟩ rfl (Nat.le_of_ble_eq_true rfl) hf3 rfl ?_
  refine k_foldi (y := c9) hc9.1 ?_
  refine lv_iload hx hb dL_law_3435 (lv_at hl 1 rfl) ?_
  refine lv_icmp_eq (tgt := 3442) hx hb dL_law_3437 (by decide) (fun _ => ?_) (fun c_x => absurd rfl c_x)
  refine lv_iload hx hb dL_law_3442 (lv_at hl 1 rfl) ?_
  refine lv_if_ne (tgt := 3461) hx hb dL_law_3444 (by decide) (fun c_1 => ?_) (fun c_1 => ?_)
  · refine lv_goto (tgt := 3946) hx hb dL_law_3461 (by decide) ?_
    have hP := P_mid hP
    have hD := D_mid hD
    refine W.widen (k := cells + 200) (n := slots + 5000) (by first | exact Nat.le_of_eq (Nat.add_assoc _ _ _) | omega) (by first | exact Nat.le_of_eq (Nat.add_assoc _ _ _) | omega) ?_
    exact kk n9 sv9 S9 (gX2_field T p0 p1) _ _ ls (rel_field hR h9) hP hD hS (lv_sub hl [2, 3, 4, 5, 6] rfl)
  · refine lv_aload_n hx hb dL_law_3447 rfl (lv_at hl 5 rfl) ?_
    obtain ⟨q9, rfl, ht7⟩ := ht9 c_1
    have hP := P_swap hP
    have hD := D_swap hD
    refine va_getN (D := gD G) (cl := vwCl) (tys := gT G) (ci := 3) (v := .ref q9) (C := RX1) (T := TX1) (N := 2) hx hb hw inB_X1 hown hE.K hP 0 rfl rfl 1 (by decide) (va_Nw.use rfl hN.2.2) (fun _ h9 => h9) rfl dL_law_3448 ?_
    refine lv_aload hx hb dL_law_3451 (lv_at hl 0 rfl) ?_
    refine rcVf (st1 := [.int (1 : Int32)]) (as := [.ref q8]) (rest := []) (cl := RJ0) C (eq_text l G ht7 (ht8.cg (hc9.2 c_1).symm)) F_J0_equals_9ea2d rfl bw1631 bw1632 (hw _ bw1633) (hE.S hS hAB) (va_P.app (P_tl (P_hd hP)) (P_tl (P_tl hP))) (ht7.recv (hE.S hS hAB) (P_tl (P_hd hP))) hl.1 dL_law_3453 ⟨Nat.le_of_ble_eq_true rfl, Nat.le_of_ble_eq_true rfl⟩ rfl (Nat.le_of_ble_eq_true rfl) hf3 rfl ?_
    refine lv_if_ne (tgt := 3461) hx hb dL_law_3456 (by decide) (fun _ => ?_) (fun c_x => absurd c_x (by decide))
    refine lv_goto (tgt := 3946) hx hb dL_law_3461 (by decide) ?_
    have hP := P_swap (P_mid hP)
    have hD := D_swap (D_mid hD)
    refine W.widen (k := cells + 200) (n := slots + 5000) (by first | exact Nat.le_of_eq (Nat.add_assoc _ _ _) | omega) (by first | exact Nat.le_of_eq (Nat.add_assoc _ _ _) | omega) ?_
    exact kk n9 (.ref q9) S9 (gX2_field T p0 p1) _ _ ls (rel_field hR h9) hP hD hS (lv_sub hl [2, 3, 4, 5, 6] rfl)

set_option maxRecDepth 100000 in
set_option maxHeartbeats 4000000 in
theorem case_compare {p : Program} {l : Launch} {e : Env} {s : State} {m : MethodId} {below : List Frame} {meth : Method} {c : Code} {Q : State → Prop} {G : GT} {b9 L9 : Nat} {xs : Nat → Int32} {a bb : Nat → Nat} {o : Nat} (Z : LW p l s m meth c G b9 L9 xs) {i cells slots : Nat} (hi : i + 6 ≤ L9) (hf : cells + 200 ≤ room_1.cells ∧ slots + 5000 ≤ room_1.slots) {n : Int64} {sv : Value} {S : SX} {T : SM} (hR : Rel S T) {H : Heap} {locs : List Loc} {ls : Array Slot} (hP : va_P (gD G) vwCl (wM G bb T ++ wH G a o n sv S) H) (hD : va_D (fun q : Nat => s.heap.size ≤ q) (wM G bb T ++ wH G a o n sv S)) (hS : va_S (fun q : Nat => s.heap.size ≤ q) s.heap H locs) (hl : lv_has ls 7 [(0, .ref b9), (1, .ref (a 0)), (2, .ref (bb 0)), (3, .ref o), (4, .int (nI i))]) (kk : ∀ (n : Int64) (sv : Value) (S : SX) (T : SM) (H : Heap) (locs : List Loc) (ls : Array Slot), Rel S T → va_P (gD G) vwCl (wM G bb T ++ wH G a o n sv S) H → va_D (fun q : Nat => s.heap.size ≤ q) (wM G bb T ++ wH G a o n sv S) → va_S (fun q : Nat => s.heap.size ≤ q) s.heap H locs → lv_has ls 7 [(0, .ref b9), (1, .ref (a 0)), (2, .ref (bb 0)), (3, .ref o), (4, .int (nI i))] → W p l e room_1 s m #[Value.ref b9] below meth c H locs (cells + 200) (slots + 5000) Q (F0 m 3946 ls [])) : W p l e room_1 s m #[Value.ref b9] below meth c H locs (cells) (slots) Q (F0 m 3464 ls []) := by
  obtain ⟨C, hE, hN, hX, hbl, hl9, hL9, hA, hAB, hbA⟩ := Z
  have hx := C.1
  have hb := C.2.1
  have hml := C.2.2.1
  have hown := C.2.2.2.1
  have hw := C.2.2.2.2
  obtain ⟨hf0, hf1, hf2⟩ := lw_hf hf
  have hf3 := hf2
  obtain ⟨p0, hp0⟩ : ∃ y : Int32, xs (nI (i + 1)).toNatClampNeg = y := ⟨_, rfl⟩
  obtain ⟨p1, hp1⟩ : ∃ y : Int32, xs (nI (i + 2)).toNatClampNeg = y := ⟨_, rfl⟩
  refine lv_aload_n hx hb dL_law_3464 rfl (lv_at hl 1 rfl) ?_
  refine lv_aload_n hx hb dL_law_3465 rfl (lv_at hl 0 rfl) ?_
  refine lv_iload hx hb dL_law_3466 (lv_at hl 4 rfl) ?_
  refine lv_iconst (v := (1 : Int32)) hx hb dL_law_3468 qi_1 ?_
  refine lv_iadd hx hb dL_law_3469 ?_
  refine k_foldi (y := (nI (i + 1))) (nI_add i 1) ?_
  refine va_sld hx hb hX hbl hbA hS (lw_in hi hL9 rfl) dL_law_3470 ?_
  refine k_foldi (y := p0) hp0 ?_
  refine lv_aload_n hx hb dL_law_3471 rfl (lv_at hl 0 rfl) ?_
  refine lv_iload hx hb dL_law_3472 (lv_at hl 4 rfl) ?_
  refine lv_iconst (v := (2 : Int32)) hx hb dL_law_3474 qi_2 ?_
  refine lv_iadd hx hb dL_law_3475 ?_
  refine k_foldi (y := (nI (i + 2))) (nI_add i 2) ?_
  refine va_sld hx hb hX hbl hbA hS (lw_in hi hL9 rfl) dL_law_3476 ?_
  refine k_foldi (y := p1) hp1 ?_
  refine lv_aload_n hx hb dL_law_3477 rfl (lv_at hl 3 rfl) ?_
  refine lwHelp (n := 4) (wr := (wM G bb T)) (wd := (wH G a o n sv S)) (as := [.ref (a 0), .int p0, .int p1, .ref o]) (rest := []) C (k_compare l hl9 G a o n sv S p0 p1) bw1099 bw56 (by decide +kernel) rfl bw1097 bw1098 hN (hE.S hS hAB) hP hD hS hA hAB hl.1 dL_law_3478 ⟨(Nat.le_of_ble_eq_true rfl), (Nat.le_of_ble_eq_true rfl)⟩ rfl (Nat.le_of_ble_eq_true rfl) hf1 (fun r9 wd9 H locs hp9 hP hD hS => ?_)
  obtain ⟨c9, n9, sv9, S9, rfl, rfl, h9⟩ := hp9
  refine W.eq (g2 := F0 m 3481 ls [.int c9]) rfl ?_
  refine lv_istore (lv' := [(5, .int c9), (0, .ref b9), (1, .ref (a 0)), (2, .ref (bb 0)), (3, .ref o), (4, .int (nI i))]) hx hb dL_law_3481 hl (Nat.le_of_ble_eq_true rfl) rfl (fun ls hl => ?_)
  refine lv_aload_n hx hb dL_law_3483 rfl (lv_at hl 3 rfl) ?_
  refine lv_aload_n hx hb dL_law_3484 rfl (lv_at hl 1 rfl) ?_
  refine lv_iload hx hb dL_law_3485 (lv_at hl 5 rfl) ?_
  refine lv_iconst (v := (1 : Int32)) hx hb dL_law_3487 qi_1 ?_
  refine lv_iadd hx hb dL_law_3488 ?_
  refine k_foldi (y := (nI (i + 1))) (nI_add i 1) ?_
  refine va_sld hx hb hX hbl hbA hS (lw_in hi hL9 rfl) dL_law_3489 ?_
  refine k_foldi (y := p0) hp0 ?_
  refine lv_aload_n hx hb dL_law_3490 rfl (lv_at hl 1 rfl) ?_
  refine lv_iload hx hb dL_law_3491 (lv_at hl 5 rfl) ?_
  refine lv_iconst (v := (2 : Int32)) hx hb dL_law_3493 qi_2 ?_
  refine lv_iadd hx hb dL_law_3494 ?_
  refine k_foldi (y := (nI (i + 2))) (nI_add i 2) ?_
  refine va_sld hx hb hX hbl hbA hS (lw_in hi hL9 rfl) dL_law_3495 ?_
  refine k_foldi (y := p1) hp1 ?_
  refine lwWR (MC := 170) (MS := 4200) (st1 := [.int ((gX2_compare T p0 p1).1)]) (wr := (wH G a o n9 sv9 S9)) (wd := (wM G bb T)) (as := [.int p0, .int p1]) (rest := []) (cl := RX2) (Nat.le_of_ble_eq_true rfl) (Nat.le_of_ble_eq_true rfl) C (c_X2_compare l G bb T p0 p1 (Rel.mo hR)) F_X2_compare rfl bw1557 bw1558 bw1559 (hE.S hS hAB) hP hD hS hA hAB (rv4 hE.K (P_tl (wr := (wH G a o n9 sv9 S9)) hP) (q0 := 0) rfl) hl.1 dL_law_3496 ⟨(Nat.le_of_ble_eq_true rfl), (Nat.le_of_ble_eq_true rfl)⟩ rfl (Nat.le_of_ble_eq_true rfl) hf2 rfl (fun H locs hP hD hS => ?_)
  have hc9 := cmp_compare hR h9
  refine lv_istore (lv' := [(6, .int ((gX2_compare T p0 p1).1)), (5, .int c9), (0, .ref b9), (1, .ref (a 0)), (2, .ref (bb 0)), (3, .ref o), (4, .int (nI i))]) hx hb dL_law_3499 hl (Nat.le_of_ble_eq_true rfl) rfl (fun ls hl => ?_)
  refine lv_aload_n hx hb dL_law_3501 rfl (lv_at hl 4 rfl) ?_
  refine rcVf (st1 := [.int (fX2_thrown ((gX2_compare T p0 p1).2))]) (as := []) (rest := []) (cl := RX2) C (c_X2_thrown l G bb ((gX2_compare T p0 p1).2)) F_X2_thrown rfl bw1200 bw1201 (hw _ bw1202) (hE.S hS hAB) (P_hd hP) (rv4 hE.K (P_hd hP) (q0 := 0) rfl) hl.1 dL_law_3502 ⟨Nat.le_of_ble_eq_true rfl, Nat.le_of_ble_eq_true rfl⟩ rfl (Nat.le_of_ble_eq_true rfl) hf3 rfl ?_
  refine k_foldi (y := c9) hc9.1 ?_
  refine lv_iload hx hb dL_law_3505 (lv_at hl 1 rfl) ?_
  refine lv_icmp_eq (tgt := 3512) hx hb dL_law_3507 (by decide) (fun _ => ?_) (fun c_x => absurd rfl c_x)
  refine lv_iload hx hb dL_law_3512 (lv_at hl 1 rfl) ?_
  refine lv_if_ne (tgt := 3530) hx hb dL_law_3514 (by decide) (fun c_1 => ?_) (fun c_1 => ?_)
  · refine lv_goto (tgt := 3946) hx hb dL_law_3530 (by decide) ?_
    refine W.widen (k := cells + 200) (n := slots + 5000) (by first | exact Nat.le_of_eq (Nat.add_assoc _ _ _) | omega) (by first | exact Nat.le_of_eq (Nat.add_assoc _ _ _) | omega) ?_
    exact kk n9 sv9 S9 ((gX2_compare T p0 p1).2) _ _ ls (rel_compare hR h9) hP hD hS (lv_sub hl [2, 3, 4, 5, 6] rfl)
  · refine lv_aload_n hx hb dL_law_3517 rfl (lv_at hl 5 rfl) ?_
    refine va_getN (D := gD G) (cl := vwCl) (tys := gT G) (ci := 3) (v := .long n9) (C := RX1) (T := TX1) (N := 2) hx hb hw inB_X1 hown hE.K hP 5 rfl rfl 0 (by decide) (va_Nw.use rfl hN.2.1) (fun _ h9 => h9) rfl dL_law_3518 ?_
    refine lv_iload hx hb dL_law_3521 (lv_at hl 0 rfl) ?_
    refine lv_i2l (v := (((gX2_compare T p0 p1).1).toInt64)) hx hb dL_law_3523 (by first | rfl | decide) ?_
    refine W.lcmp hx hb dL_law_3524 ?_
    refine lv_if_eq (tgt := 3530) hx hb dL_law_3525 (by decide) (fun _ => ?_) (fun c_x => absurd (lgc_eq.mpr (by rw [hc9.2 c_1])) c_x)
    refine lv_goto (tgt := 3946) hx hb dL_law_3530 (by decide) ?_
    refine W.widen (k := cells + 200) (n := slots + 5000) (by first | exact Nat.le_of_eq (Nat.add_assoc _ _ _) | omega) (by first | exact Nat.le_of_eq (Nat.add_assoc _ _ _) | omega) ?_
    exact kk n9 sv9 S9 ((gX2_compare T p0 p1).2) _ _ ls (rel_compare hR h9) hP hD hS (lv_sub hl [2, 3, 4, 5, 6] rfl)

set_option maxRecDepth 100000 in
set_option maxHeartbeats 4000000 in
theorem case_isSame {p : Program} {l : Launch} {e : Env} {s : State} {m : MethodId} {below : List Frame} {meth : Method} {c : Code} {Q : State → Prop} {G : GT} {b9 L9 : Nat} {xs : Nat → Int32} {a bb : Nat → Nat} {o : Nat} (Z : LW p l s m meth c G b9 L9 xs) {i cells slots : Nat} (hi : i + 6 ≤ L9) (hf : cells + 200 ≤ room_1.cells ∧ slots + 5000 ≤ room_1.slots) {n : Int64} {sv : Value} {S : SX} {T : SM} (hR : Rel S T) {H : Heap} {locs : List Loc} {ls : Array Slot} (hP : va_P (gD G) vwCl (wM G bb T ++ wH G a o n sv S) H) (hD : va_D (fun q : Nat => s.heap.size ≤ q) (wM G bb T ++ wH G a o n sv S)) (hS : va_S (fun q : Nat => s.heap.size ≤ q) s.heap H locs) (hl : lv_has ls 7 [(0, .ref b9), (1, .ref (a 0)), (2, .ref (bb 0)), (3, .ref o), (4, .int (nI i))]) (kk : ∀ (n : Int64) (sv : Value) (S : SX) (T : SM) (H : Heap) (locs : List Loc) (ls : Array Slot), Rel S T → va_P (gD G) vwCl (wM G bb T ++ wH G a o n sv S) H → va_D (fun q : Nat => s.heap.size ≤ q) (wM G bb T ++ wH G a o n sv S) → va_S (fun q : Nat => s.heap.size ≤ q) s.heap H locs → lv_has ls 7 [(0, .ref b9), (1, .ref (a 0)), (2, .ref (bb 0)), (3, .ref o), (4, .int (nI i))] → W p l e room_1 s m #[Value.ref b9] below meth c H locs (cells + 200) (slots + 5000) Q (F0 m 3946 ls [])) : W p l e room_1 s m #[Value.ref b9] below meth c H locs (cells) (slots) Q (F0 m 3533 ls []) := by
  obtain ⟨C, hE, hN, hX, hbl, hl9, hL9, hA, hAB, hbA⟩ := Z
  have hx := C.1
  have hb := C.2.1
  have hml := C.2.2.1
  have hown := C.2.2.2.1
  have hw := C.2.2.2.2
  obtain ⟨hf0, hf1, hf2⟩ := lw_hf hf
  have hf3 := hf2
  obtain ⟨p0, hp0⟩ : ∃ y : Int32, xs (nI (i + 1)).toNatClampNeg = y := ⟨_, rfl⟩
  obtain ⟨p1, hp1⟩ : ∃ y : Int32, xs (nI (i + 2)).toNatClampNeg = y := ⟨_, rfl⟩
  refine lv_aload_n hx hb dL_law_3533 rfl (lv_at hl 1 rfl) ?_
  refine lv_aload_n hx hb dL_law_3534 rfl (lv_at hl 0 rfl) ?_
  refine lv_iload hx hb dL_law_3535 (lv_at hl 4 rfl) ?_
  refine lv_iconst (v := (1 : Int32)) hx hb dL_law_3537 qi_1 ?_
  refine lv_iadd hx hb dL_law_3538 ?_
  refine k_foldi (y := (nI (i + 1))) (nI_add i 1) ?_
  refine va_sld hx hb hX hbl hbA hS (lw_in hi hL9 rfl) dL_law_3539 ?_
  refine k_foldi (y := p0) hp0 ?_
  refine lv_aload_n hx hb dL_law_3540 rfl (lv_at hl 0 rfl) ?_
  refine lv_iload hx hb dL_law_3541 (lv_at hl 4 rfl) ?_
  refine lv_iconst (v := (2 : Int32)) hx hb dL_law_3543 qi_2 ?_
  refine lv_iadd hx hb dL_law_3544 ?_
  refine k_foldi (y := (nI (i + 2))) (nI_add i 2) ?_
  refine va_sld hx hb hX hbl hbA hS (lw_in hi hL9 rfl) dL_law_3545 ?_
  refine k_foldi (y := p1) hp1 ?_
  refine lv_aload_n hx hb dL_law_3546 rfl (lv_at hl 3 rfl) ?_
  refine lwHelp (n := 4) (wr := (wM G bb T)) (wd := (wH G a o n sv S)) (as := [.ref (a 0), .int p0, .int p1, .ref o]) (rest := []) C (k_isSame l hl9 G a o n sv S p0 p1) bw1106 bw56 (by decide +kernel) rfl bw1104 bw1105 hN (hE.S hS hAB) hP hD hS hA hAB hl.1 dL_law_3547 ⟨(Nat.le_of_ble_eq_true rfl), (Nat.le_of_ble_eq_true rfl)⟩ rfl (Nat.le_of_ble_eq_true rfl) hf1 (fun r9 wd9 H locs hp9 hP hD hS => ?_)
  obtain ⟨c9, n9, sv9, S9, rfl, rfl, h9⟩ := hp9
  refine W.eq (g2 := F0 m 3550 ls [.int c9]) rfl ?_
  refine lv_istore (lv' := [(5, .int c9), (0, .ref b9), (1, .ref (a 0)), (2, .ref (bb 0)), (3, .ref o), (4, .int (nI i))]) hx hb dL_law_3550 hl (Nat.le_of_ble_eq_true rfl) rfl (fun ls hl => ?_)
  refine lv_aload_n hx hb dL_law_3552 rfl (lv_at hl 3 rfl) ?_
  refine lv_aload_n hx hb dL_law_3553 rfl (lv_at hl 1 rfl) ?_
  refine lv_iload hx hb dL_law_3554 (lv_at hl 5 rfl) ?_
  refine lv_iconst (v := (1 : Int32)) hx hb dL_law_3556 qi_1 ?_
  refine lv_iadd hx hb dL_law_3557 ?_
  refine k_foldi (y := (nI (i + 1))) (nI_add i 1) ?_
  refine va_sld hx hb hX hbl hbA hS (lw_in hi hL9 rfl) dL_law_3558 ?_
  refine k_foldi (y := p0) hp0 ?_
  refine lv_aload_n hx hb dL_law_3559 rfl (lv_at hl 1 rfl) ?_
  refine lv_iload hx hb dL_law_3560 (lv_at hl 5 rfl) ?_
  refine lv_iconst (v := (2 : Int32)) hx hb dL_law_3562 qi_2 ?_
  refine lv_iadd hx hb dL_law_3563 ?_
  refine k_foldi (y := (nI (i + 2))) (nI_add i 2) ?_
  refine va_sld hx hb hX hbl hbA hS (lw_in hi hL9 rfl) dL_law_3564 ?_
  refine k_foldi (y := p1) hp1 ?_
  refine lwWR (MC := 170) (MS := 4200) (st1 := [.int ((gX2_isSame T p0 p1).1)]) (wr := (wH G a o n9 sv9 S9)) (wd := (wM G bb T)) (as := [.int p0, .int p1]) (rest := []) (cl := RX2) (Nat.le_of_ble_eq_true rfl) (Nat.le_of_ble_eq_true rfl) C (c_X2_isSame l G bb T p0 p1 (Rel.mo hR)) F_X2_isSame rfl bw1565 bw1566 bw1567 (hE.S hS hAB) hP hD hS hA hAB (rv4 hE.K (P_tl (wr := (wH G a o n9 sv9 S9)) hP) (q0 := 0) rfl) hl.1 dL_law_3565 ⟨(Nat.le_of_ble_eq_true rfl), (Nat.le_of_ble_eq_true rfl)⟩ rfl (Nat.le_of_ble_eq_true rfl) hf2 rfl (fun H locs hP hD hS => ?_)
  have hc9 := cmp_isSame hR h9
  refine lv_istore (lv' := [(6, .int ((gX2_isSame T p0 p1).1)), (5, .int c9), (0, .ref b9), (1, .ref (a 0)), (2, .ref (bb 0)), (3, .ref o), (4, .int (nI i))]) hx hb dL_law_3568 hl (Nat.le_of_ble_eq_true rfl) rfl (fun ls hl => ?_)
  refine lv_aload_n hx hb dL_law_3570 rfl (lv_at hl 4 rfl) ?_
  refine rcVf (st1 := [.int (fX2_thrown ((gX2_isSame T p0 p1).2))]) (as := []) (rest := []) (cl := RX2) C (c_X2_thrown l G bb ((gX2_isSame T p0 p1).2)) F_X2_thrown rfl bw1200 bw1201 (hw _ bw1202) (hE.S hS hAB) (P_hd hP) (rv4 hE.K (P_hd hP) (q0 := 0) rfl) hl.1 dL_law_3571 ⟨Nat.le_of_ble_eq_true rfl, Nat.le_of_ble_eq_true rfl⟩ rfl (Nat.le_of_ble_eq_true rfl) hf3 rfl ?_
  refine k_foldi (y := c9) hc9.1 ?_
  refine lv_iload hx hb dL_law_3574 (lv_at hl 1 rfl) ?_
  refine lv_icmp_eq (tgt := 3581) hx hb dL_law_3576 (by decide) (fun _ => ?_) (fun c_x => absurd rfl c_x)
  refine lv_iload hx hb dL_law_3581 (lv_at hl 1 rfl) ?_
  refine lv_if_ne (tgt := 3606) hx hb dL_law_3583 (by decide) (fun c_1 => ?_) (fun c_1 => ?_)
  · refine lv_goto (tgt := 3946) hx hb dL_law_3606 (by decide) ?_
    refine W.widen (k := cells + 200) (n := slots + 5000) (by first | exact Nat.le_of_eq (Nat.add_assoc _ _ _) | omega) (by first | exact Nat.le_of_eq (Nat.add_assoc _ _ _) | omega) ?_
    exact kk n9 sv9 S9 ((gX2_isSame T p0 p1).2) _ _ ls (rel_isSame hR h9) hP hD hS (lv_sub hl [2, 3, 4, 5, 6] rfl)
  · refine lv_aload_n hx hb dL_law_3586 rfl (lv_at hl 5 rfl) ?_
    refine va_getN (D := gD G) (cl := vwCl) (tys := gT G) (ci := 3) (v := .long n9) (C := RX1) (T := TX1) (N := 2) hx hb hw inB_X1 hown hE.K hP 5 rfl rfl 0 (by decide) (va_Nw.use rfl hN.2.1) (fun _ h9 => h9) rfl dL_law_3587 ?_
    refine lv_iload hx hb dL_law_3590 (lv_at hl 0 rfl) ?_
    refine lv_if_eq (tgt := 3599) hx hb dL_law_3592 (by decide) (fun c_2 => ?_) (fun c_2 => ?_)
    · refine lv_lconst (v := (0 : Int64)) hx hb dL_law_3599 ql_0 ?_
      refine W.lcmp hx hb dL_law_3600 ?_
      refine lv_if_eq (tgt := 3606) hx hb dL_law_3601 (by decide) (fun _ => ?_) (fun c_x => absurd (lgc_eq.mpr (by rw [hc9.2 c_1, fz9, if_pos c_2])) c_x)
      refine lv_goto (tgt := 3946) hx hb dL_law_3606 (by decide) ?_
      refine W.widen (k := cells + 200) (n := slots + 5000) (by first | exact Nat.le_of_eq (Nat.add_assoc _ _ _) | omega) (by first | exact Nat.le_of_eq (Nat.add_assoc _ _ _) | omega) ?_
      exact kk n9 sv9 S9 ((gX2_isSame T p0 p1).2) _ _ ls (rel_isSame hR h9) hP hD hS (lv_sub hl [2, 3, 4, 5, 6] rfl)
    · refine lv_lconst (v := (1 : Int64)) hx hb dL_law_3595 ql_1 ?_
      refine lv_goto (tgt := 3600) hx hb dL_law_3596 (by decide) ?_
      refine W.lcmp hx hb dL_law_3600 ?_
      refine lv_if_eq (tgt := 3606) hx hb dL_law_3601 (by decide) (fun _ => ?_) (fun c_x => absurd (lgc_eq.mpr (by rw [hc9.2 c_1, fz9, if_neg c_2])) c_x)
      refine lv_goto (tgt := 3946) hx hb dL_law_3606 (by decide) ?_
      refine W.widen (k := cells + 200) (n := slots + 5000) (by first | exact Nat.le_of_eq (Nat.add_assoc _ _ _) | omega) (by first | exact Nat.le_of_eq (Nat.add_assoc _ _ _) | omega) ?_
      exact kk n9 sv9 S9 ((gX2_isSame T p0 p1).2) _ _ ls (rel_isSame hR h9) hP hD hS (lv_sub hl [2, 3, 4, 5, 6] rfl)

set_option maxRecDepth 100000 in
set_option maxHeartbeats 4000000 in
theorem case_isSameAs {p : Program} {l : Launch} {e : Env} {s : State} {m : MethodId} {below : List Frame} {meth : Method} {c : Code} {Q : State → Prop} {G : GT} {b9 L9 : Nat} {xs : Nat → Int32} {a bb : Nat → Nat} {o : Nat} (Z : LW p l s m meth c G b9 L9 xs) {i cells slots : Nat} (hi : i + 6 ≤ L9) (hf : cells + 200 ≤ room_1.cells ∧ slots + 5000 ≤ room_1.slots) {n : Int64} {sv : Value} {S : SX} {T : SM} (hR : Rel S T) {H : Heap} {locs : List Loc} {ls : Array Slot} (hP : va_P (gD G) vwCl (wM G bb T ++ wH G a o n sv S) H) (hD : va_D (fun q : Nat => s.heap.size ≤ q) (wM G bb T ++ wH G a o n sv S)) (hS : va_S (fun q : Nat => s.heap.size ≤ q) s.heap H locs) (hl : lv_has ls 7 [(0, .ref b9), (1, .ref (a 0)), (2, .ref (bb 0)), (3, .ref o), (4, .int (nI i))]) (kk : ∀ (n : Int64) (sv : Value) (S : SX) (T : SM) (H : Heap) (locs : List Loc) (ls : Array Slot), Rel S T → va_P (gD G) vwCl (wM G bb T ++ wH G a o n sv S) H → va_D (fun q : Nat => s.heap.size ≤ q) (wM G bb T ++ wH G a o n sv S) → va_S (fun q : Nat => s.heap.size ≤ q) s.heap H locs → lv_has ls 7 [(0, .ref b9), (1, .ref (a 0)), (2, .ref (bb 0)), (3, .ref o), (4, .int (nI i))] → W p l e room_1 s m #[Value.ref b9] below meth c H locs (cells + 200) (slots + 5000) Q (F0 m 3946 ls [])) : W p l e room_1 s m #[Value.ref b9] below meth c H locs (cells) (slots) Q (F0 m 3609 ls []) := by
  obtain ⟨C, hE, hN, hX, hbl, hl9, hL9, hA, hAB, hbA⟩ := Z
  have hx := C.1
  have hb := C.2.1
  have hml := C.2.2.1
  have hown := C.2.2.2.1
  have hw := C.2.2.2.2
  obtain ⟨hf0, hf1, hf2⟩ := lw_hf hf
  have hf3 := hf2
  obtain ⟨p0, hp0⟩ : ∃ y : Int32, xs (nI (i + 1)).toNatClampNeg = y := ⟨_, rfl⟩
  obtain ⟨p1, hp1⟩ : ∃ y : Int32, xs (nI (i + 2)).toNatClampNeg = y := ⟨_, rfl⟩
  refine lv_aload_n hx hb dL_law_3609 rfl (lv_at hl 1 rfl) ?_
  refine lv_aload_n hx hb dL_law_3610 rfl (lv_at hl 0 rfl) ?_
  refine lv_iload hx hb dL_law_3611 (lv_at hl 4 rfl) ?_
  refine lv_iconst (v := (1 : Int32)) hx hb dL_law_3613 qi_1 ?_
  refine lv_iadd hx hb dL_law_3614 ?_
  refine k_foldi (y := (nI (i + 1))) (nI_add i 1) ?_
  refine va_sld hx hb hX hbl hbA hS (lw_in hi hL9 rfl) dL_law_3615 ?_
  refine k_foldi (y := p0) hp0 ?_
  refine lv_aload_n hx hb dL_law_3616 rfl (lv_at hl 0 rfl) ?_
  refine lv_iload hx hb dL_law_3617 (lv_at hl 4 rfl) ?_
  refine lv_iconst (v := (2 : Int32)) hx hb dL_law_3619 qi_2 ?_
  refine lv_iadd hx hb dL_law_3620 ?_
  refine k_foldi (y := (nI (i + 2))) (nI_add i 2) ?_
  refine va_sld hx hb hX hbl hbA hS (lw_in hi hL9 rfl) dL_law_3621 ?_
  refine k_foldi (y := p1) hp1 ?_
  refine lv_aload_n hx hb dL_law_3622 rfl (lv_at hl 3 rfl) ?_
  refine lwHelp (n := 4) (wr := (wM G bb T)) (wd := (wH G a o n sv S)) (as := [.ref (a 0), .int p0, .int p1, .ref o]) (rest := []) C (k_isSameAs l hl9 G a o n sv S p0 p1) bw1113 bw56 (by decide +kernel) rfl bw1111 bw1112 hN (hE.S hS hAB) hP hD hS hA hAB hl.1 dL_law_3623 ⟨(Nat.le_of_ble_eq_true rfl), (Nat.le_of_ble_eq_true rfl)⟩ rfl (Nat.le_of_ble_eq_true rfl) hf1 (fun r9 wd9 H locs hp9 hP hD hS => ?_)
  obtain ⟨c9, n9, sv9, S9, rfl, rfl, h9⟩ := hp9
  refine W.eq (g2 := F0 m 3626 ls [.int c9]) rfl ?_
  refine lv_istore (lv' := [(5, .int c9), (0, .ref b9), (1, .ref (a 0)), (2, .ref (bb 0)), (3, .ref o), (4, .int (nI i))]) hx hb dL_law_3626 hl (Nat.le_of_ble_eq_true rfl) rfl (fun ls hl => ?_)
  refine lv_aload_n hx hb dL_law_3628 rfl (lv_at hl 3 rfl) ?_
  refine lv_aload_n hx hb dL_law_3629 rfl (lv_at hl 1 rfl) ?_
  refine lv_iload hx hb dL_law_3630 (lv_at hl 5 rfl) ?_
  refine lv_iconst (v := (1 : Int32)) hx hb dL_law_3632 qi_1 ?_
  refine lv_iadd hx hb dL_law_3633 ?_
  refine k_foldi (y := (nI (i + 1))) (nI_add i 1) ?_
  refine va_sld hx hb hX hbl hbA hS (lw_in hi hL9 rfl) dL_law_3634 ?_
  refine k_foldi (y := p0) hp0 ?_
  refine lv_aload_n hx hb dL_law_3635 rfl (lv_at hl 1 rfl) ?_
  refine lv_iload hx hb dL_law_3636 (lv_at hl 5 rfl) ?_
  refine lv_iconst (v := (2 : Int32)) hx hb dL_law_3638 qi_2 ?_
  refine lv_iadd hx hb dL_law_3639 ?_
  refine k_foldi (y := (nI (i + 2))) (nI_add i 2) ?_
  refine va_sld hx hb hX hbl hbA hS (lw_in hi hL9 rfl) dL_law_3640 ?_
  refine k_foldi (y := p1) hp1 ?_
  refine lwWR (MC := 170) (MS := 4200) (st1 := [.int ((gX2_isSameAs T p0 p1).1)]) (wr := (wH G a o n9 sv9 S9)) (wd := (wM G bb T)) (as := [.int p0, .int p1]) (rest := []) (cl := RX2) (Nat.le_of_ble_eq_true rfl) (Nat.le_of_ble_eq_true rfl) C (c_X2_isSameAs l G bb T p0 p1 (Rel.mo hR)) F_X2_isSameAs rfl bw1569 bw1570 bw1571 (hE.S hS hAB) hP hD hS hA hAB (rv4 hE.K (P_tl (wr := (wH G a o n9 sv9 S9)) hP) (q0 := 0) rfl) hl.1 dL_law_3641 ⟨(Nat.le_of_ble_eq_true rfl), (Nat.le_of_ble_eq_true rfl)⟩ rfl (Nat.le_of_ble_eq_true rfl) hf2 rfl (fun H locs hP hD hS => ?_)
  have hc9 := cmp_isSameAs hR h9
  refine lv_istore (lv' := [(6, .int ((gX2_isSameAs T p0 p1).1)), (5, .int c9), (0, .ref b9), (1, .ref (a 0)), (2, .ref (bb 0)), (3, .ref o), (4, .int (nI i))]) hx hb dL_law_3644 hl (Nat.le_of_ble_eq_true rfl) rfl (fun ls hl => ?_)
  refine lv_aload_n hx hb dL_law_3646 rfl (lv_at hl 4 rfl) ?_
  refine rcVf (st1 := [.int (fX2_thrown ((gX2_isSameAs T p0 p1).2))]) (as := []) (rest := []) (cl := RX2) C (c_X2_thrown l G bb ((gX2_isSameAs T p0 p1).2)) F_X2_thrown rfl bw1200 bw1201 (hw _ bw1202) (hE.S hS hAB) (P_hd hP) (rv4 hE.K (P_hd hP) (q0 := 0) rfl) hl.1 dL_law_3647 ⟨Nat.le_of_ble_eq_true rfl, Nat.le_of_ble_eq_true rfl⟩ rfl (Nat.le_of_ble_eq_true rfl) hf3 rfl ?_
  refine k_foldi (y := c9) hc9.1 ?_
  refine lv_iload hx hb dL_law_3650 (lv_at hl 1 rfl) ?_
  refine lv_icmp_eq (tgt := 3657) hx hb dL_law_3652 (by decide) (fun _ => ?_) (fun c_x => absurd rfl c_x)
  refine lv_iload hx hb dL_law_3657 (lv_at hl 1 rfl) ?_
  refine lv_if_ne (tgt := 3682) hx hb dL_law_3659 (by decide) (fun c_1 => ?_) (fun c_1 => ?_)
  · refine lv_goto (tgt := 3946) hx hb dL_law_3682 (by decide) ?_
    refine W.widen (k := cells + 200) (n := slots + 5000) (by first | exact Nat.le_of_eq (Nat.add_assoc _ _ _) | omega) (by first | exact Nat.le_of_eq (Nat.add_assoc _ _ _) | omega) ?_
    exact kk n9 sv9 S9 ((gX2_isSameAs T p0 p1).2) _ _ ls (rel_isSameAs hR h9) hP hD hS (lv_sub hl [2, 3, 4, 5, 6] rfl)
  · refine lv_aload_n hx hb dL_law_3662 rfl (lv_at hl 5 rfl) ?_
    refine va_getN (D := gD G) (cl := vwCl) (tys := gT G) (ci := 3) (v := .long n9) (C := RX1) (T := TX1) (N := 2) hx hb hw inB_X1 hown hE.K hP 5 rfl rfl 0 (by decide) (va_Nw.use rfl hN.2.1) (fun _ h9 => h9) rfl dL_law_3663 ?_
    refine lv_iload hx hb dL_law_3666 (lv_at hl 0 rfl) ?_
    refine lv_if_eq (tgt := 3675) hx hb dL_law_3668 (by decide) (fun c_2 => ?_) (fun c_2 => ?_)
    · refine lv_lconst (v := (0 : Int64)) hx hb dL_law_3675 ql_0 ?_
      refine W.lcmp hx hb dL_law_3676 ?_
      refine lv_if_eq (tgt := 3682) hx hb dL_law_3677 (by decide) (fun _ => ?_) (fun c_x => absurd (lgc_eq.mpr (by rw [hc9.2 c_1, fz9, if_pos c_2])) c_x)
      refine lv_goto (tgt := 3946) hx hb dL_law_3682 (by decide) ?_
      refine W.widen (k := cells + 200) (n := slots + 5000) (by first | exact Nat.le_of_eq (Nat.add_assoc _ _ _) | omega) (by first | exact Nat.le_of_eq (Nat.add_assoc _ _ _) | omega) ?_
      exact kk n9 sv9 S9 ((gX2_isSameAs T p0 p1).2) _ _ ls (rel_isSameAs hR h9) hP hD hS (lv_sub hl [2, 3, 4, 5, 6] rfl)
    · refine lv_lconst (v := (1 : Int64)) hx hb dL_law_3671 ql_1 ?_
      refine lv_goto (tgt := 3676) hx hb dL_law_3672 (by decide) ?_
      refine W.lcmp hx hb dL_law_3676 ?_
      refine lv_if_eq (tgt := 3682) hx hb dL_law_3677 (by decide) (fun _ => ?_) (fun c_x => absurd (lgc_eq.mpr (by rw [hc9.2 c_1, fz9, if_neg c_2])) c_x)
      refine lv_goto (tgt := 3946) hx hb dL_law_3682 (by decide) ?_
      refine W.widen (k := cells + 200) (n := slots + 5000) (by first | exact Nat.le_of_eq (Nat.add_assoc _ _ _) | omega) (by first | exact Nat.le_of_eq (Nat.add_assoc _ _ _) | omega) ?_
      exact kk n9 sv9 S9 ((gX2_isSameAs T p0 p1).2) _ _ ls (rel_isSameAs hR h9) hP hD hS (lv_sub hl [2, 3, 4, 5, 6] rfl)

set_option maxRecDepth 100000 in
set_option maxHeartbeats 4000000 in
theorem case_between {p : Program} {l : Launch} {e : Env} {s : State} {m : MethodId} {below : List Frame} {meth : Method} {c : Code} {Q : State → Prop} {G : GT} {b9 L9 : Nat} {xs : Nat → Int32} {a bb : Nat → Nat} {o : Nat} (Z : LW p l s m meth c G b9 L9 xs) {i cells slots : Nat} (hi : i + 6 ≤ L9) (hf : cells + 200 ≤ room_1.cells ∧ slots + 5000 ≤ room_1.slots) {n : Int64} {sv : Value} {S : SX} {T : SM} (hR : Rel S T) {H : Heap} {locs : List Loc} {ls : Array Slot} (hP : va_P (gD G) vwCl (wM G bb T ++ wH G a o n sv S) H) (hD : va_D (fun q : Nat => s.heap.size ≤ q) (wM G bb T ++ wH G a o n sv S)) (hS : va_S (fun q : Nat => s.heap.size ≤ q) s.heap H locs) (hl : lv_has ls 7 [(0, .ref b9), (1, .ref (a 0)), (2, .ref (bb 0)), (3, .ref o), (4, .int (nI i))]) (kk : ∀ (n : Int64) (sv : Value) (S : SX) (T : SM) (H : Heap) (locs : List Loc) (ls : Array Slot), Rel S T → va_P (gD G) vwCl (wM G bb T ++ wH G a o n sv S) H → va_D (fun q : Nat => s.heap.size ≤ q) (wM G bb T ++ wH G a o n sv S) → va_S (fun q : Nat => s.heap.size ≤ q) s.heap H locs → lv_has ls 7 [(0, .ref b9), (1, .ref (a 0)), (2, .ref (bb 0)), (3, .ref o), (4, .int (nI i))] → W p l e room_1 s m #[Value.ref b9] below meth c H locs (cells + 200) (slots + 5000) Q (F0 m 3946 ls [])) : W p l e room_1 s m #[Value.ref b9] below meth c H locs (cells) (slots) Q (F0 m 3685 ls []) := by
  obtain ⟨C, hE, hN, hX, hbl, hl9, hL9, hA, hAB, hbA⟩ := Z
  have hx := C.1
  have hb := C.2.1
  have hml := C.2.2.1
  have hown := C.2.2.2.1
  have hw := C.2.2.2.2
  obtain ⟨hf0, hf1, hf2⟩ := lw_hf hf
  have hf3 := hf2
  obtain ⟨p0, hp0⟩ : ∃ y : Int32, xs (nI (i + 1)).toNatClampNeg = y := ⟨_, rfl⟩
  obtain ⟨p1, hp1⟩ : ∃ y : Int32, xs (nI (i + 2)).toNatClampNeg = y := ⟨_, rfl⟩
  obtain ⟨p2, hp2⟩ : ∃ y : Int32, xs (nI (i + 3)).toNatClampNeg = y := ⟨_, rfl⟩
  refine lv_aload_n hx hb dL_law_3685 rfl (lv_at hl 1 rfl) ?_
  refine lv_aload_n hx hb dL_law_3686 rfl (lv_at hl 0 rfl) ?_
  refine lv_iload hx hb dL_law_3687 (lv_at hl 4 rfl) ?_
  refine lv_iconst (v := (1 : Int32)) hx hb dL_law_3689 qi_1 ?_
  refine lv_iadd hx hb dL_law_3690 ?_
  refine k_foldi (y := (nI (i + 1))) (nI_add i 1) ?_
  refine va_sld hx hb hX hbl hbA hS (lw_in hi hL9 rfl) dL_law_3691 ?_
  refine k_foldi (y := p0) hp0 ?_
  refine lv_aload_n hx hb dL_law_3692 rfl (lv_at hl 0 rfl) ?_
  refine lv_iload hx hb dL_law_3693 (lv_at hl 4 rfl) ?_
  refine lv_iconst (v := (2 : Int32)) hx hb dL_law_3695 qi_2 ?_
  refine lv_iadd hx hb dL_law_3696 ?_
  refine k_foldi (y := (nI (i + 2))) (nI_add i 2) ?_
  refine va_sld hx hb hX hbl hbA hS (lw_in hi hL9 rfl) dL_law_3697 ?_
  refine k_foldi (y := p1) hp1 ?_
  refine lv_aload_n hx hb dL_law_3698 rfl (lv_at hl 0 rfl) ?_
  refine lv_iload hx hb dL_law_3699 (lv_at hl 4 rfl) ?_
  refine lv_iconst (v := (3 : Int32)) hx hb dL_law_3701 qi_3 ?_
  refine lv_iadd hx hb dL_law_3702 ?_
  refine k_foldi (y := (nI (i + 3))) (nI_add i 3) ?_
  refine va_sld hx hb hX hbl hbA hS (lw_in hi hL9 rfl) dL_law_3703 ?_
  refine k_foldi (y := p2) hp2 ?_
  refine lv_aload_n hx hb dL_law_3704 rfl (lv_at hl 3 rfl) ?_
  refine lwHelp (n := 5) (wr := (wM G bb T)) (wd := (wH G a o n sv S)) (as := [.ref (a 0), .int p0, .int p1, .int p2, .ref o]) (rest := []) C (k_between l hl9 G a o n sv S p0 p1 p2) bw1120 bw56 (by decide +kernel) rfl bw1118 bw1119 hN (hE.S hS hAB) hP hD hS hA hAB hl.1 dL_law_3705 ⟨(Nat.le_of_ble_eq_true rfl), (Nat.le_of_ble_eq_true rfl)⟩ rfl (Nat.le_of_ble_eq_true rfl) hf1 (fun r9 wd9 H locs hp9 hP hD hS => ?_)
  obtain ⟨c9, n9, sv9, S9, ws9, rfl, rfl, h9, ht9⟩ := hp9
  refine W.eq (g2 := F0 m 3708 ls [.int c9]) rfl ?_
  refine lv_istore (lv' := [(5, .int c9), (0, .ref b9), (1, .ref (a 0)), (2, .ref (bb 0)), (3, .ref o), (4, .int (nI i))]) hx hb dL_law_3708 hl (Nat.le_of_ble_eq_true rfl) rfl (fun ls hl => ?_)
  refine lv_aload_n hx hb dL_law_3710 rfl (lv_at hl 3 rfl) ?_
  refine lv_aload_n hx hb dL_law_3711 rfl (lv_at hl 1 rfl) ?_
  refine lv_iload hx hb dL_law_3712 (lv_at hl 5 rfl) ?_
  refine lv_iconst (v := (1 : Int32)) hx hb dL_law_3714 qi_1 ?_
  refine lv_iadd hx hb dL_law_3715 ?_
  refine k_foldi (y := (nI (i + 1))) (nI_add i 1) ?_
  refine va_sld hx hb hX hbl hbA hS (lw_in hi hL9 rfl) dL_law_3716 ?_
  refine k_foldi (y := p0) hp0 ?_
  refine lv_aload_n hx hb dL_law_3717 rfl (lv_at hl 1 rfl) ?_
  refine lv_iload hx hb dL_law_3718 (lv_at hl 5 rfl) ?_
  refine lv_iconst (v := (2 : Int32)) hx hb dL_law_3720 qi_2 ?_
  refine lv_iadd hx hb dL_law_3721 ?_
  refine k_foldi (y := (nI (i + 2))) (nI_add i 2) ?_
  refine va_sld hx hb hX hbl hbA hS (lw_in hi hL9 rfl) dL_law_3722 ?_
  refine k_foldi (y := p1) hp1 ?_
  refine lv_aload_n hx hb dL_law_3723 rfl (lv_at hl 1 rfl) ?_
  refine lv_iload hx hb dL_law_3724 (lv_at hl 5 rfl) ?_
  refine lv_iconst (v := (3 : Int32)) hx hb dL_law_3726 qi_3 ?_
  refine lv_iadd hx hb dL_law_3727 ?_
  refine k_foldi (y := (nI (i + 3))) (nI_add i 3) ?_
  refine va_sld hx hb hX hbl hbA hS (lw_in hi hL9 rfl) dL_law_3728 ?_
  refine k_foldi (y := p2) hp2 ?_
  refine lwWE (MC := 170) (MS := 4200) (wr := (wH G a o n9 sv9 S9 ++ ws9)) (wd := (wM G bb T)) (as := [.int p0, .int p1, .int p2]) (rest := []) (cl := RX2) (Nat.le_of_ble_eq_true rfl) (Nat.le_of_ble_eq_true rfl) C (u_between l G bb T p0 p1 p2 (Rel.mo hR)) F_X2_between rfl bw1573 bw1574 bw1575 (hE.S hS hAB) hP hD hS hA hAB (rv4 hE.K (P_tl (wr := (wH G a o n9 sv9 S9 ++ ws9)) hP) (q0 := 0) rfl) hl.1 dL_law_3729 ⟨(Nat.le_of_ble_eq_true rfl), (Nat.le_of_ble_eq_true rfl)⟩ rfl (Nat.le_of_ble_eq_true rfl) hf2 (fun r9 wd9 H locs hp9 hP hD hS => ?_)
  obtain ⟨q8, ws8, rfl, rfl, ht8⟩ := hp9
  refine W.eq (g2 := F0 m 3732 ls [.ref q8]) rfl ?_
  have hc9 := cmp_between hR h9
  refine lv_astore (lv' := [(6, .ref q8), (5, .int c9), (0, .ref b9), (1, .ref (a 0)), (2, .ref (bb 0)), (3, .ref o), (4, .int (nI i))]) hx hb dL_law_3732 hl (Nat.le_of_ble_eq_true rfl) rfl (fun ls hl => ?_)
  refine lv_aload_n hx hb dL_law_3734 rfl (lv_at hl 4 rfl) ?_
  refine rcVf (st1 := [.int (fX2_thrown (gX2_between T p0 p1 p2))]) (as := []) (rest := []) (cl := RX2) C (c_X2_thrown l G bb (gX2_between T p0 p1 p2)) F_X2_thrown rfl bw1200 bw1201 (hw _ bw1202) (hE.S hS hAB) (P_hd (P_hd hP)) (rv4 hE.K (P_hd hP) (q0 := 0) rfl) hl.1 dL_law_3735 ⟨Nat.le_of_ble_eq_true rfl, Nat.le_of_ble_eq_true rfl⟩ rfl (Nat.le_of_ble_eq_true rfl) hf3 rfl ?_
  refine k_foldi (y := c9) hc9.1 ?_
  refine lv_iload hx hb dL_law_3738 (lv_at hl 1 rfl) ?_
  refine lv_icmp_eq (tgt := 3745) hx hb dL_law_3740 (by decide) (fun _ => ?_) (fun c_x => absurd rfl c_x)
  refine lv_iload hx hb dL_law_3745 (lv_at hl 1 rfl) ?_
  refine lv_if_ne (tgt := 3764) hx hb dL_law_3747 (by decide) (fun c_1 => ?_) (fun c_1 => ?_)
  · refine lv_goto (tgt := 3946) hx hb dL_law_3764 (by decide) ?_
    have hP := P_mid hP
    have hD := D_mid hD
    refine W.widen (k := cells + 200) (n := slots + 5000) (by first | exact Nat.le_of_eq (Nat.add_assoc _ _ _) | omega) (by first | exact Nat.le_of_eq (Nat.add_assoc _ _ _) | omega) ?_
    exact kk n9 sv9 S9 (gX2_between T p0 p1 p2) _ _ ls (rel_between hR h9) hP hD hS (lv_sub hl [2, 3, 4, 5, 6] rfl)
  · refine lv_aload_n hx hb dL_law_3750 rfl (lv_at hl 5 rfl) ?_
    obtain ⟨q9, rfl, ht7⟩ := ht9 c_1
    have hP := P_swap hP
    have hD := D_swap hD
    refine va_getN (D := gD G) (cl := vwCl) (tys := gT G) (ci := 3) (v := .ref q9) (C := RX1) (T := TX1) (N := 2) hx hb hw inB_X1 hown hE.K hP 0 rfl rfl 1 (by decide) (va_Nw.use rfl hN.2.2) (fun _ h9 => h9) rfl dL_law_3751 ?_
    refine lv_aload hx hb dL_law_3754 (lv_at hl 0 rfl) ?_
    refine rcVf (st1 := [.int (1 : Int32)]) (as := [.ref q8]) (rest := []) (cl := RJ0) C (eq_text l G ht7 (ht8.cg (hc9.2 c_1).symm)) F_J0_equals_9ea2d rfl bw1631 bw1632 (hw _ bw1633) (hE.S hS hAB) (va_P.app (P_tl (P_hd hP)) (P_tl (P_tl hP))) (ht7.recv (hE.S hS hAB) (P_tl (P_hd hP))) hl.1 dL_law_3756 ⟨Nat.le_of_ble_eq_true rfl, Nat.le_of_ble_eq_true rfl⟩ rfl (Nat.le_of_ble_eq_true rfl) hf3 rfl ?_
    refine lv_if_ne (tgt := 3764) hx hb dL_law_3759 (by decide) (fun _ => ?_) (fun c_x => absurd c_x (by decide))
    refine lv_goto (tgt := 3946) hx hb dL_law_3764 (by decide) ?_
    have hP := P_swap (P_mid hP)
    have hD := D_swap (D_mid hD)
    refine W.widen (k := cells + 200) (n := slots + 5000) (by first | exact Nat.le_of_eq (Nat.add_assoc _ _ _) | omega) (by first | exact Nat.le_of_eq (Nat.add_assoc _ _ _) | omega) ?_
    exact kk n9 (.ref q9) S9 (gX2_between T p0 p1 p2) _ _ ls (rel_between hR h9) hP hD hS (lv_sub hl [2, 3, 4, 5, 6] rfl)

set_option maxRecDepth 100000 in
set_option maxHeartbeats 4000000 in
theorem case_until {p : Program} {l : Launch} {e : Env} {s : State} {m : MethodId} {below : List Frame} {meth : Method} {c : Code} {Q : State → Prop} {G : GT} {b9 L9 : Nat} {xs : Nat → Int32} {a bb : Nat → Nat} {o : Nat} (Z : LW p l s m meth c G b9 L9 xs) {i cells slots : Nat} (hi : i + 6 ≤ L9) (hf : cells + 200 ≤ room_1.cells ∧ slots + 5000 ≤ room_1.slots) {n : Int64} {sv : Value} {S : SX} {T : SM} (hR : Rel S T) {H : Heap} {locs : List Loc} {ls : Array Slot} (hP : va_P (gD G) vwCl (wM G bb T ++ wH G a o n sv S) H) (hD : va_D (fun q : Nat => s.heap.size ≤ q) (wM G bb T ++ wH G a o n sv S)) (hS : va_S (fun q : Nat => s.heap.size ≤ q) s.heap H locs) (hl : lv_has ls 7 [(0, .ref b9), (1, .ref (a 0)), (2, .ref (bb 0)), (3, .ref o), (4, .int (nI i))]) (kk : ∀ (n : Int64) (sv : Value) (S : SX) (T : SM) (H : Heap) (locs : List Loc) (ls : Array Slot), Rel S T → va_P (gD G) vwCl (wM G bb T ++ wH G a o n sv S) H → va_D (fun q : Nat => s.heap.size ≤ q) (wM G bb T ++ wH G a o n sv S) → va_S (fun q : Nat => s.heap.size ≤ q) s.heap H locs → lv_has ls 7 [(0, .ref b9), (1, .ref (a 0)), (2, .ref (bb 0)), (3, .ref o), (4, .int (nI i))] → W p l e room_1 s m #[Value.ref b9] below meth c H locs (cells + 200) (slots + 5000) Q (F0 m 3946 ls [])) : W p l e room_1 s m #[Value.ref b9] below meth c H locs (cells) (slots) Q (F0 m 3767 ls []) := by
  obtain ⟨C, hE, hN, hX, hbl, hl9, hL9, hA, hAB, hbA⟩ := Z
  have hx := C.1
  have hb := C.2.1
  have hml := C.2.2.1
  have hown := C.2.2.2.1
  have hw := C.2.2.2.2
  obtain ⟨hf0, hf1, hf2⟩ := lw_hf hf
  have hf3 := hf2
  obtain ⟨p0, hp0⟩ : ∃ y : Int32, xs (nI (i + 1)).toNatClampNeg = y := ⟨_, rfl⟩
  obtain ⟨p1, hp1⟩ : ∃ y : Int32, xs (nI (i + 2)).toNatClampNeg = y := ⟨_, rfl⟩
  obtain ⟨p2, hp2⟩ : ∃ y : Int32, xs (nI (i + 3)).toNatClampNeg = y := ⟨_, rfl⟩
  refine lv_aload_n hx hb dL_law_3767 rfl (lv_at hl 1 rfl) ?_
  refine lv_aload_n hx hb dL_law_3768 rfl (lv_at hl 0 rfl) ?_
  refine lv_iload hx hb dL_law_3769 (lv_at hl 4 rfl) ?_
  refine lv_iconst (v := (1 : Int32)) hx hb dL_law_3771 qi_1 ?_
  refine lv_iadd hx hb dL_law_3772 ?_
  refine k_foldi (y := (nI (i + 1))) (nI_add i 1) ?_
  refine va_sld hx hb hX hbl hbA hS (lw_in hi hL9 rfl) dL_law_3773 ?_
  refine k_foldi (y := p0) hp0 ?_
  refine lv_aload_n hx hb dL_law_3774 rfl (lv_at hl 0 rfl) ?_
  refine lv_iload hx hb dL_law_3775 (lv_at hl 4 rfl) ?_
  refine lv_iconst (v := (2 : Int32)) hx hb dL_law_3777 qi_2 ?_
  refine lv_iadd hx hb dL_law_3778 ?_
  refine k_foldi (y := (nI (i + 2))) (nI_add i 2) ?_
  refine va_sld hx hb hX hbl hbA hS (lw_in hi hL9 rfl) dL_law_3779 ?_
  refine k_foldi (y := p1) hp1 ?_
  refine lv_aload_n hx hb dL_law_3780 rfl (lv_at hl 0 rfl) ?_
  refine lv_iload hx hb dL_law_3781 (lv_at hl 4 rfl) ?_
  refine lv_iconst (v := (3 : Int32)) hx hb dL_law_3783 qi_3 ?_
  refine lv_iadd hx hb dL_law_3784 ?_
  refine k_foldi (y := (nI (i + 3))) (nI_add i 3) ?_
  refine va_sld hx hb hX hbl hbA hS (lw_in hi hL9 rfl) dL_law_3785 ?_
  refine k_foldi (y := p2) hp2 ?_
  refine lv_aload_n hx hb dL_law_3786 rfl (lv_at hl 3 rfl) ?_
  refine lwHelp (n := 5) (wr := (wM G bb T)) (wd := (wH G a o n sv S)) (as := [.ref (a 0), .int p0, .int p1, .int p2, .ref o]) (rest := []) C (k_until l hl9 G a o n sv S p0 p1 p2) bw1145 bw56 (by decide +kernel) rfl bw1143 bw1144 hN (hE.S hS hAB) hP hD hS hA hAB hl.1 dL_law_3787 ⟨(Nat.le_of_ble_eq_true rfl), (Nat.le_of_ble_eq_true rfl)⟩ rfl (Nat.le_of_ble_eq_true rfl) hf1 (fun r9 wd9 H locs hp9 hP hD hS => ?_)
  obtain ⟨c9, n9, sv9, S9, ws9, rfl, rfl, h9, ht9⟩ := hp9
  refine W.eq (g2 := F0 m 3790 ls [.int c9]) rfl ?_
  refine lv_istore (lv' := [(5, .int c9), (0, .ref b9), (1, .ref (a 0)), (2, .ref (bb 0)), (3, .ref o), (4, .int (nI i))]) hx hb dL_law_3790 hl (Nat.le_of_ble_eq_true rfl) rfl (fun ls hl => ?_)
  refine lv_aload_n hx hb dL_law_3792 rfl (lv_at hl 3 rfl) ?_
  refine lv_aload_n hx hb dL_law_3793 rfl (lv_at hl 1 rfl) ?_
  refine lv_iload hx hb dL_law_3794 (lv_at hl 5 rfl) ?_
  refine lv_iconst (v := (1 : Int32)) hx hb dL_law_3796 qi_1 ?_
  refine lv_iadd hx hb dL_law_3797 ?_
  refine k_foldi (y := (nI (i + 1))) (nI_add i 1) ?_
  refine va_sld hx hb hX hbl hbA hS (lw_in hi hL9 rfl) dL_law_3798 ?_
  refine k_foldi (y := p0) hp0 ?_
  refine lv_aload_n hx hb dL_law_3799 rfl (lv_at hl 1 rfl) ?_
  refine lv_iload hx hb dL_law_3800 (lv_at hl 5 rfl) ?_
  refine lv_iconst (v := (2 : Int32)) hx hb dL_law_3802 qi_2 ?_
  refine lv_iadd hx hb dL_law_3803 ?_
  refine k_foldi (y := (nI (i + 2))) (nI_add i 2) ?_
  refine va_sld hx hb hX hbl hbA hS (lw_in hi hL9 rfl) dL_law_3804 ?_
  refine k_foldi (y := p1) hp1 ?_
  refine lv_aload_n hx hb dL_law_3805 rfl (lv_at hl 1 rfl) ?_
  refine lv_iload hx hb dL_law_3806 (lv_at hl 5 rfl) ?_
  refine lv_iconst (v := (3 : Int32)) hx hb dL_law_3808 qi_3 ?_
  refine lv_iadd hx hb dL_law_3809 ?_
  refine k_foldi (y := (nI (i + 3))) (nI_add i 3) ?_
  refine va_sld hx hb hX hbl hbA hS (lw_in hi hL9 rfl) dL_law_3810 ?_
  refine k_foldi (y := p2) hp2 ?_
  refine lwWE (MC := 170) (MS := 4200) (wr := (wH G a o n9 sv9 S9 ++ ws9)) (wd := (wM G bb T)) (as := [.int p0, .int p1, .int p2]) (rest := []) (cl := RX2) (Nat.le_of_ble_eq_true rfl) (Nat.le_of_ble_eq_true rfl) C (u_until l G bb T p0 p1 p2 (Rel.mo hR)) F_X2_until rfl bw1596 bw1597 bw1598 (hE.S hS hAB) hP hD hS hA hAB (rv4 hE.K (P_tl (wr := (wH G a o n9 sv9 S9 ++ ws9)) hP) (q0 := 0) rfl) hl.1 dL_law_3811 ⟨(Nat.le_of_ble_eq_true rfl), (Nat.le_of_ble_eq_true rfl)⟩ rfl (Nat.le_of_ble_eq_true rfl) hf2 (fun r9 wd9 H locs hp9 hP hD hS => ?_)
  obtain ⟨q8, ws8, rfl, rfl, ht8⟩ := hp9
  refine W.eq (g2 := F0 m 3814 ls [.ref q8]) rfl ?_
  have hc9 := cmp_until hR h9
  refine lv_astore (lv' := [(6, .ref q8), (5, .int c9), (0, .ref b9), (1, .ref (a 0)), (2, .ref (bb 0)), (3, .ref o), (4, .int (nI i))]) hx hb dL_law_3814 hl (Nat.le_of_ble_eq_true rfl) rfl (fun ls hl => ?_)
  refine lv_aload_n hx hb dL_law_3816 rfl (lv_at hl 4 rfl) ?_
  refine rcVf (st1 := [.int (fX2_thrown (gX2_until T p0 p1 p2))]) (as := []) (rest := []) (cl := RX2) C (c_X2_thrown l G bb (gX2_until T p0 p1 p2)) F_X2_thrown rfl bw1200 bw1201 (hw _ bw1202) (hE.S hS hAB) (P_hd (P_hd hP)) (rv4 hE.K (P_hd hP) (q0 := 0) rfl) hl.1 dL_law_3817 ⟨Nat.le_of_ble_eq_true rfl, Nat.le_of_ble_eq_true rfl⟩ rfl (Nat.le_of_ble_eq_true rfl) hf3 rfl ?_
  refine k_foldi (y := c9) hc9.1 ?_
  refine lv_iload hx hb dL_law_3820 (lv_at hl 1 rfl) ?_
  refine lv_icmp_eq (tgt := 3827) hx hb dL_law_3822 (by decide) (fun _ => ?_) (fun c_x => absurd rfl c_x)
  refine lv_iload hx hb dL_law_3827 (lv_at hl 1 rfl) ?_
  refine lv_if_ne (tgt := 3846) hx hb dL_law_3829 (by decide) (fun c_1 => ?_) (fun c_1 => ?_)
  · refine lv_goto (tgt := 3946) hx hb dL_law_3846 (by decide) ?_
    have hP := P_mid hP
    have hD := D_mid hD
    refine W.widen (k := cells + 200) (n := slots + 5000) (by first | exact Nat.le_of_eq (Nat.add_assoc _ _ _) | omega) (by first | exact Nat.le_of_eq (Nat.add_assoc _ _ _) | omega) ?_
    exact kk n9 sv9 S9 (gX2_until T p0 p1 p2) _ _ ls (rel_until hR h9) hP hD hS (lv_sub hl [2, 3, 4, 5, 6] rfl)
  · refine lv_aload_n hx hb dL_law_3832 rfl (lv_at hl 5 rfl) ?_
    obtain ⟨q9, rfl, ht7⟩ := ht9 c_1
    have hP := P_swap hP
    have hD := D_swap hD
    refine va_getN (D := gD G) (cl := vwCl) (tys := gT G) (ci := 3) (v := .ref q9) (C := RX1) (T := TX1) (N := 2) hx hb hw inB_X1 hown hE.K hP 0 rfl rfl 1 (by decide) (va_Nw.use rfl hN.2.2) (fun _ h9 => h9) rfl dL_law_3833 ?_
    refine lv_aload hx hb dL_law_3836 (lv_at hl 0 rfl) ?_
    refine rcVf (st1 := [.int (1 : Int32)]) (as := [.ref q8]) (rest := []) (cl := RJ0) C (eq_text l G ht7 (ht8.cg (hc9.2 c_1).symm)) F_J0_equals_9ea2d rfl bw1631 bw1632 (hw _ bw1633) (hE.S hS hAB) (va_P.app (P_tl (P_hd hP)) (P_tl (P_tl hP))) (ht7.recv (hE.S hS hAB) (P_tl (P_hd hP))) hl.1 dL_law_3838 ⟨Nat.le_of_ble_eq_true rfl, Nat.le_of_ble_eq_true rfl⟩ rfl (Nat.le_of_ble_eq_true rfl) hf3 rfl ?_
    refine lv_if_ne (tgt := 3846) hx hb dL_law_3841 (by decide) (fun _ => ?_) (fun c_x => absurd c_x (by decide))
    refine lv_goto (tgt := 3946) hx hb dL_law_3846 (by decide) ?_
    have hP := P_swap (P_mid hP)
    have hD := D_swap (D_mid hD)
    refine W.widen (k := cells + 200) (n := slots + 5000) (by first | exact Nat.le_of_eq (Nat.add_assoc _ _ _) | omega) (by first | exact Nat.le_of_eq (Nat.add_assoc _ _ _) | omega) ?_
    exact kk n9 (.ref q9) S9 (gX2_until T p0 p1 p2) _ _ ls (rel_until hR h9) hP hD hS (lv_sub hl [2, 3, 4, 5, 6] rfl)

set_option maxRecDepth 100000 in
set_option maxHeartbeats 4000000 in
theorem case_house {p : Program} {l : Launch} {e : Env} {s : State} {m : MethodId} {below : List Frame} {meth : Method} {c : Code} {Q : State → Prop} {G : GT} {b9 L9 : Nat} {xs : Nat → Int32} {a bb : Nat → Nat} {o : Nat} (Z : LW p l s m meth c G b9 L9 xs) {i cells slots : Nat} (hi : i + 6 ≤ L9) (hf : cells + 200 ≤ room_1.cells ∧ slots + 5000 ≤ room_1.slots) {n : Int64} {sv : Value} {S : SX} {T : SM} (hR : Rel S T) {H : Heap} {locs : List Loc} {ls : Array Slot} (hP : va_P (gD G) vwCl (wM G bb T ++ wH G a o n sv S) H) (hD : va_D (fun q : Nat => s.heap.size ≤ q) (wM G bb T ++ wH G a o n sv S)) (hS : va_S (fun q : Nat => s.heap.size ≤ q) s.heap H locs) (hl : lv_has ls 7 [(0, .ref b9), (1, .ref (a 0)), (2, .ref (bb 0)), (3, .ref o), (4, .int (nI i))]) (kk : ∀ (n : Int64) (sv : Value) (S : SX) (T : SM) (H : Heap) (locs : List Loc) (ls : Array Slot), Rel S T → va_P (gD G) vwCl (wM G bb T ++ wH G a o n sv S) H → va_D (fun q : Nat => s.heap.size ≤ q) (wM G bb T ++ wH G a o n sv S) → va_S (fun q : Nat => s.heap.size ≤ q) s.heap H locs → lv_has ls 7 [(0, .ref b9), (1, .ref (a 0)), (2, .ref (bb 0)), (3, .ref o), (4, .int (nI i))] → W p l e room_1 s m #[Value.ref b9] below meth c H locs (cells + 200) (slots + 5000) Q (F0 m 3946 ls [])) : W p l e room_1 s m #[Value.ref b9] below meth c H locs (cells) (slots) Q (F0 m 3849 ls []) := by
  obtain ⟨C, hE, hN, hX, hbl, hl9, hL9, hA, hAB, hbA⟩ := Z
  have hx := C.1
  have hb := C.2.1
  have hml := C.2.2.1
  have hown := C.2.2.2.1
  have hw := C.2.2.2.2
  obtain ⟨hf0, hf1, hf2⟩ := lw_hf hf
  have hf3 := hf2
  obtain ⟨p0, hp0⟩ : ∃ y : Int32, xs (nI (i + 1)).toNatClampNeg = y := ⟨_, rfl⟩
  refine lv_aload_n hx hb dL_law_3849 rfl (lv_at hl 1 rfl) ?_
  refine lv_aload_n hx hb dL_law_3850 rfl (lv_at hl 0 rfl) ?_
  refine lv_iload hx hb dL_law_3851 (lv_at hl 4 rfl) ?_
  refine lv_iconst (v := (1 : Int32)) hx hb dL_law_3853 qi_1 ?_
  refine lv_iadd hx hb dL_law_3854 ?_
  refine k_foldi (y := (nI (i + 1))) (nI_add i 1) ?_
  refine va_sld hx hb hX hbl hbA hS (lw_in hi hL9 rfl) dL_law_3855 ?_
  refine k_foldi (y := p0) hp0 ?_
  refine lv_aload_n hx hb dL_law_3856 rfl (lv_at hl 3 rfl) ?_
  refine lwHelp (n := 3) (wr := (wM G bb T)) (wd := (wH G a o n sv S)) (as := [.ref (a 0), .int p0, .ref o]) (rest := []) C (k_house l hl9 G a o n sv S p0) bw1152 bw56 (by decide +kernel) rfl bw1150 bw1151 hN (hE.S hS hAB) hP hD hS hA hAB hl.1 dL_law_3857 ⟨(Nat.le_of_ble_eq_true rfl), (Nat.le_of_ble_eq_true rfl)⟩ rfl (Nat.le_of_ble_eq_true rfl) hf1 (fun r9 wd9 H locs hp9 hP hD hS => ?_)
  obtain ⟨c9, n9, sv9, S9, rfl, rfl, h9⟩ := hp9
  refine W.eq (g2 := F0 m 3860 ls [.int c9]) rfl ?_
  refine lv_istore (lv' := [(5, .int c9), (0, .ref b9), (1, .ref (a 0)), (2, .ref (bb 0)), (3, .ref o), (4, .int (nI i))]) hx hb dL_law_3860 hl (Nat.le_of_ble_eq_true rfl) rfl (fun ls hl => ?_)
  refine lv_aload_n hx hb dL_law_3862 rfl (lv_at hl 3 rfl) ?_
  refine lv_aload_n hx hb dL_law_3863 rfl (lv_at hl 1 rfl) ?_
  refine lv_iload hx hb dL_law_3864 (lv_at hl 5 rfl) ?_
  refine lv_iconst (v := (1 : Int32)) hx hb dL_law_3866 qi_1 ?_
  refine lv_iadd hx hb dL_law_3867 ?_
  refine k_foldi (y := (nI (i + 1))) (nI_add i 1) ?_
  refine va_sld hx hb hX hbl hbA hS (lw_in hi hL9 rfl) dL_law_3868 ?_
  refine k_foldi (y := p0) hp0 ?_
  refine lwWR (MC := 170) (MS := 4200) (st1 := [.int ((gX2_house T p0).1)]) (wr := (wH G a o n9 sv9 S9)) (wd := (wM G bb T)) (as := [.int p0]) (rest := []) (cl := RX2) (Nat.le_of_ble_eq_true rfl) (Nat.le_of_ble_eq_true rfl) C (c_X2_house l G bb T p0 (Rel.mo hR)) F_X2_house rfl bw1600 bw1601 bw1602 (hE.S hS hAB) hP hD hS hA hAB (rv4 hE.K (P_tl (wr := (wH G a o n9 sv9 S9)) hP) (q0 := 0) rfl) hl.1 dL_law_3869 ⟨(Nat.le_of_ble_eq_true rfl), (Nat.le_of_ble_eq_true rfl)⟩ rfl (Nat.le_of_ble_eq_true rfl) hf2 rfl (fun H locs hP hD hS => ?_)
  have hc9 := cmp_house hR h9
  refine lv_istore (lv' := [(6, .int ((gX2_house T p0).1)), (5, .int c9), (0, .ref b9), (1, .ref (a 0)), (2, .ref (bb 0)), (3, .ref o), (4, .int (nI i))]) hx hb dL_law_3872 hl (Nat.le_of_ble_eq_true rfl) rfl (fun ls hl => ?_)
  refine lv_aload_n hx hb dL_law_3874 rfl (lv_at hl 4 rfl) ?_
  refine rcVf (st1 := [.int (fX2_thrown ((gX2_house T p0).2))]) (as := []) (rest := []) (cl := RX2) C (c_X2_thrown l G bb ((gX2_house T p0).2)) F_X2_thrown rfl bw1200 bw1201 (hw _ bw1202) (hE.S hS hAB) (P_hd hP) (rv4 hE.K (P_hd hP) (q0 := 0) rfl) hl.1 dL_law_3875 ⟨Nat.le_of_ble_eq_true rfl, Nat.le_of_ble_eq_true rfl⟩ rfl (Nat.le_of_ble_eq_true rfl) hf3 rfl ?_
  refine k_foldi (y := c9) hc9.1 ?_
  refine lv_iload hx hb dL_law_3878 (lv_at hl 1 rfl) ?_
  refine lv_icmp_eq (tgt := 3885) hx hb dL_law_3880 (by decide) (fun _ => ?_) (fun c_x => absurd rfl c_x)
  refine lv_iload hx hb dL_law_3885 (lv_at hl 1 rfl) ?_
  refine lv_if_ne (tgt := 3903) hx hb dL_law_3887 (by decide) (fun c_1 => ?_) (fun c_1 => ?_)
  · refine lv_goto (tgt := 3946) hx hb dL_law_3903 (by decide) ?_
    refine W.widen (k := cells + 200) (n := slots + 5000) (by first | exact Nat.le_of_eq (Nat.add_assoc _ _ _) | omega) (by first | exact Nat.le_of_eq (Nat.add_assoc _ _ _) | omega) ?_
    exact kk n9 sv9 S9 ((gX2_house T p0).2) _ _ ls (rel_house hR h9) hP hD hS (lv_sub hl [2, 3, 4, 5, 6] rfl)
  · refine lv_aload_n hx hb dL_law_3890 rfl (lv_at hl 5 rfl) ?_
    refine va_getN (D := gD G) (cl := vwCl) (tys := gT G) (ci := 3) (v := .long n9) (C := RX1) (T := TX1) (N := 2) hx hb hw inB_X1 hown hE.K hP 5 rfl rfl 0 (by decide) (va_Nw.use rfl hN.2.1) (fun _ h9 => h9) rfl dL_law_3891 ?_
    refine lv_iload hx hb dL_law_3894 (lv_at hl 0 rfl) ?_
    refine lv_i2l (v := (((gX2_house T p0).1).toInt64)) hx hb dL_law_3896 (by first | rfl | decide) ?_
    refine W.lcmp hx hb dL_law_3897 ?_
    refine lv_if_eq (tgt := 3903) hx hb dL_law_3898 (by decide) (fun _ => ?_) (fun c_x => absurd (lgc_eq.mpr (by rw [hc9.2 c_1])) c_x)
    refine lv_goto (tgt := 3946) hx hb dL_law_3903 (by decide) ?_
    refine W.widen (k := cells + 200) (n := slots + 5000) (by first | exact Nat.le_of_eq (Nat.add_assoc _ _ _) | omega) (by first | exact Nat.le_of_eq (Nat.add_assoc _ _ _) | omega) ?_
    exact kk n9 sv9 S9 ((gX2_house T p0).2) _ _ ls (rel_house hR h9) hP hD hS (lv_sub hl [2, 3, 4, 5, 6] rfl)

set_option maxRecDepth 100000 in
set_option maxHeartbeats 4000000 in
theorem case_knock {p : Program} {l : Launch} {e : Env} {s : State} {m : MethodId} {below : List Frame} {meth : Method} {c : Code} {Q : State → Prop} {G : GT} {b9 L9 : Nat} {xs : Nat → Int32} {a bb : Nat → Nat} {o : Nat} (Z : LW p l s m meth c G b9 L9 xs) {i cells slots : Nat} (hi : i + 6 ≤ L9) (hf : cells + 200 ≤ room_1.cells ∧ slots + 5000 ≤ room_1.slots) {n : Int64} {sv : Value} {S : SX} {T : SM} (hR : Rel S T) {H : Heap} {locs : List Loc} {ls : Array Slot} (hP : va_P (gD G) vwCl (wM G bb T ++ wH G a o n sv S) H) (hD : va_D (fun q : Nat => s.heap.size ≤ q) (wM G bb T ++ wH G a o n sv S)) (hS : va_S (fun q : Nat => s.heap.size ≤ q) s.heap H locs) (hl : lv_has ls 7 [(0, .ref b9), (1, .ref (a 0)), (2, .ref (bb 0)), (3, .ref o), (4, .int (nI i))]) (kk : ∀ (n : Int64) (sv : Value) (S : SX) (T : SM) (H : Heap) (locs : List Loc) (ls : Array Slot), Rel S T → va_P (gD G) vwCl (wM G bb T ++ wH G a o n sv S) H → va_D (fun q : Nat => s.heap.size ≤ q) (wM G bb T ++ wH G a o n sv S) → va_S (fun q : Nat => s.heap.size ≤ q) s.heap H locs → lv_has ls 7 [(0, .ref b9), (1, .ref (a 0)), (2, .ref (bb 0)), (3, .ref o), (4, .int (nI i))] → W p l e room_1 s m #[Value.ref b9] below meth c H locs (cells + 200) (slots + 5000) Q (F0 m 3946 ls [])) : W p l e room_1 s m #[Value.ref b9] below meth c H locs (cells) (slots) Q (F0 m 3906 ls []) := by
  obtain ⟨C, hE, hN, hX, hbl, hl9, hL9, hA, hAB, hbA⟩ := Z
  have hx := C.1
  have hb := C.2.1
  have hml := C.2.2.1
  have hown := C.2.2.2.1
  have hw := C.2.2.2.2
  obtain ⟨hf0, hf1, hf2⟩ := lw_hf hf
  have hf3 := hf2
  refine lv_aload_n hx hb dL_law_3906 rfl (lv_at hl 1 rfl) ?_
  have hP8 : va_P (gD G) vwCl ((wM G bb T ++ [(o, .inr (3, [.long n, sv]))]) ++ wX G a S) _ := hP
  have hD8 : va_D (fun q : Nat => s.heap.size ≤ q) ((wM G bb T ++ [(o, .inr (3, [.long n, sv]))]) ++ wX G a S) := hD
  refine lwWR (MC := 30) (MS := 800) (st1 := [.int ((gX0_knock S).1)]) (wr := (wM G bb T ++ [(o, .inr (3, [.long n, sv]))])) (wd := (wX G a S)) (as := []) (rest := []) (cl := RX0) (Nat.le_of_ble_eq_true rfl) (Nat.le_of_ble_eq_true rfl) C (c_X0_knock l G a S) F_X0_knock rfl bw133 bw134 bw135 (hE.S hS hAB) hP8 hD8 hS hA hAB (rv2 hE.K (P_tl hP8) (q0 := 0) rfl) hl.1 dL_law_3907 ⟨(Nat.le_of_ble_eq_true rfl), (Nat.le_of_ble_eq_true rfl)⟩ rfl (Nat.le_of_ble_eq_true rfl) hf1 rfl (fun H locs hP hD hS => ?_)
  have hP : va_P (gD G) vwCl (wH G a o n sv (gX0_knock S).2 ++ wM G bb T) H := (show va_P (gD G) vwCl (wH G a o n sv (gX0_knock S).2 ++ wM G bb T) H from hP.sub [11, 0, 1, 2, 3, 4, 5, 6, 7, 8, 9, 10] rfl)
  have hD : va_D (fun q : Nat => s.heap.size ≤ q) (wH G a o n sv (gX0_knock S).2 ++ wM G bb T) := hD.sub [11, 0, 1, 2, 3, 4, 5, 6, 7, 8, 9, 10] (by decide) rfl
  refine lv_aload_n hx hb dL_law_3910 rfl (lv_at hl 2 rfl) ?_
  refine lwWR (MC := 170) (MS := 4200) (st1 := [.int ((gX2_knock T).1), .int ((gX0_knock S).1)]) (wr := (wH G a o n sv (gX0_knock S).2)) (wd := (wM G bb T)) (as := []) (rest := [.int ((gX0_knock S).1)]) (cl := RX2) (Nat.le_of_ble_eq_true rfl) (Nat.le_of_ble_eq_true rfl) C (c_X2_knock l G bb T (Rel.mo hR)) F_X2_knock rfl bw1616 bw1617 bw1618 (hE.S hS hAB) hP hD hS hA hAB (rv4 hE.K (P_tl (wr := (wH G a o n sv (gX0_knock S).2)) hP) (q0 := 0) rfl) hl.1 dL_law_3911 ⟨(Nat.le_of_ble_eq_true rfl), (Nat.le_of_ble_eq_true rfl)⟩ rfl (Nat.le_of_ble_eq_true rfl) hf2 rfl (fun H locs hP hD hS => ?_)
  have hc9 := cmp_knock hR
  refine lv_icmp_eq (tgt := 3946) hx hb dL_law_3914 (by decide) (fun _ => ?_) (fun c_x => absurd hc9 c_x)
  refine W.widen (k := cells + 200) (n := slots + 5000) (by first | exact Nat.le_of_eq (Nat.add_assoc _ _ _) | omega) (by first | exact Nat.le_of_eq (Nat.add_assoc _ _ _) | omega) ?_
  exact kk n sv ((gX0_knock S).2) ((gX2_knock T).2) _ _ ls (rel_knock hR) hP hD hS (lv_sub hl [0, 1, 2, 3, 4] rfl)

set_option maxRecDepth 100000 in
set_option maxHeartbeats 4000000 in
theorem case_isSound {p : Program} {l : Launch} {e : Env} {s : State} {m : MethodId} {below : List Frame} {meth : Method} {c : Code} {Q : State → Prop} {G : GT} {b9 L9 : Nat} {xs : Nat → Int32} {a bb : Nat → Nat} {o : Nat} (Z : LW p l s m meth c G b9 L9 xs) {i cells slots : Nat} (hi : i + 6 ≤ L9) (hf : cells + 200 ≤ room_1.cells ∧ slots + 5000 ≤ room_1.slots) {n : Int64} {sv : Value} {S : SX} {T : SM} (hR : Rel S T) {H : Heap} {locs : List Loc} {ls : Array Slot} (hP : va_P (gD G) vwCl (wM G bb T ++ wH G a o n sv S) H) (hD : va_D (fun q : Nat => s.heap.size ≤ q) (wM G bb T ++ wH G a o n sv S)) (hS : va_S (fun q : Nat => s.heap.size ≤ q) s.heap H locs) (hl : lv_has ls 7 [(0, .ref b9), (1, .ref (a 0)), (2, .ref (bb 0)), (3, .ref o), (4, .int (nI i))]) (kk : ∀ (n : Int64) (sv : Value) (S : SX) (T : SM) (H : Heap) (locs : List Loc) (ls : Array Slot), Rel S T → va_P (gD G) vwCl (wM G bb T ++ wH G a o n sv S) H → va_D (fun q : Nat => s.heap.size ≤ q) (wM G bb T ++ wH G a o n sv S) → va_S (fun q : Nat => s.heap.size ≤ q) s.heap H locs → lv_has ls 7 [(0, .ref b9), (1, .ref (a 0)), (2, .ref (bb 0)), (3, .ref o), (4, .int (nI i))] → W p l e room_1 s m #[Value.ref b9] below meth c H locs (cells + 200) (slots + 5000) Q (F0 m 3946 ls [])) : W p l e room_1 s m #[Value.ref b9] below meth c H locs (cells) (slots) Q (F0 m 3919 ls []) := by
  obtain ⟨C, hE, hN, hX, hbl, hl9, hL9, hA, hAB, hbA⟩ := Z
  have hx := C.1
  have hb := C.2.1
  have hml := C.2.2.1
  have hown := C.2.2.2.1
  have hw := C.2.2.2.2
  obtain ⟨hf0, hf1, hf2⟩ := lw_hf hf
  have hf3 := hf2
  refine lv_aload_n hx hb dL_law_3919 rfl (lv_at hl 1 rfl) ?_
  refine rcVf (st1 := [.int (fX0_isSound S)]) (as := []) (rest := []) (cl := RX0) C (c_X0_isSound l G a S) F_X0_isSound rfl bw137 bw138 (hw _ bw139) (hE.S hS hAB) (P_tail (P_tl hP)) (rv2 hE.K (P_tail (P_tl hP)) (q0 := 0) rfl) hl.1 dL_law_3920 ⟨Nat.le_of_ble_eq_true rfl, Nat.le_of_ble_eq_true rfl⟩ rfl (Nat.le_of_ble_eq_true rfl) hf0 rfl ?_
  have hP := P_swap hP
  have hD := D_swap hD
  refine W.widen (k := cells + 30) (n := slots + 800) (by first | exact Nat.le_add_right _ _ | omega) (by first | exact Nat.le_add_right _ _ | omega) ?_
  refine lv_aload_n hx hb dL_law_3923 rfl (lv_at hl 2 rfl) ?_
  refine lwWR (MC := 170) (MS := 4200) (st1 := [.int ((gX2_isSound T).1), .int (fX0_isSound S)]) (wr := (wH G a o n sv S)) (wd := (wM G bb T)) (as := []) (rest := [.int (fX0_isSound S)]) (cl := RX2) (Nat.le_of_ble_eq_true rfl) (Nat.le_of_ble_eq_true rfl) C (c_X2_isSound l G bb T (Rel.mo hR)) F_X2_isSound rfl bw1620 bw1621 bw1622 (hE.S hS hAB) hP hD hS hA hAB (rv4 hE.K (P_tl (wr := (wH G a o n sv S)) hP) (q0 := 0) rfl) hl.1 dL_law_3924 ⟨(Nat.le_of_ble_eq_true rfl), (Nat.le_of_ble_eq_true rfl)⟩ rfl (Nat.le_of_ble_eq_true rfl) hf2 rfl (fun H locs hP hD hS => ?_)
  have hc9 := cmp_isSound hR
  refine lv_icmp_eq (tgt := 3946) hx hb dL_law_3927 (by decide) (fun _ => ?_) (fun c_x => absurd hc9 c_x)
  refine W.widen (k := cells + 200) (n := slots + 5000) (by first | exact Nat.le_of_eq (Nat.add_assoc _ _ _) | omega) (by first | exact Nat.le_of_eq (Nat.add_assoc _ _ _) | omega) ?_
  exact kk n sv S ((gX2_isSound T).2) _ _ ls (rel_isSound hR) hP hD hS (lv_sub hl [0, 1, 2, 3, 4] rfl)

set_option maxRecDepth 100000 in
set_option maxHeartbeats 4000000 in
theorem case_digest {p : Program} {l : Launch} {e : Env} {s : State} {m : MethodId} {below : List Frame} {meth : Method} {c : Code} {Q : State → Prop} {G : GT} {b9 L9 : Nat} {xs : Nat → Int32} {a bb : Nat → Nat} {o : Nat} (Z : LW p l s m meth c G b9 L9 xs) {i cells slots : Nat} (hi : i + 6 ≤ L9) (hf : cells + 200 ≤ room_1.cells ∧ slots + 5000 ≤ room_1.slots) {n : Int64} {sv : Value} {S : SX} {T : SM} (hR : Rel S T) {H : Heap} {locs : List Loc} {ls : Array Slot} (hP : va_P (gD G) vwCl (wM G bb T ++ wH G a o n sv S) H) (hD : va_D (fun q : Nat => s.heap.size ≤ q) (wM G bb T ++ wH G a o n sv S)) (hS : va_S (fun q : Nat => s.heap.size ≤ q) s.heap H locs) (hl : lv_has ls 7 [(0, .ref b9), (1, .ref (a 0)), (2, .ref (bb 0)), (3, .ref o), (4, .int (nI i))]) (kk : ∀ (n : Int64) (sv : Value) (S : SX) (T : SM) (H : Heap) (locs : List Loc) (ls : Array Slot), Rel S T → va_P (gD G) vwCl (wM G bb T ++ wH G a o n sv S) H → va_D (fun q : Nat => s.heap.size ≤ q) (wM G bb T ++ wH G a o n sv S) → va_S (fun q : Nat => s.heap.size ≤ q) s.heap H locs → lv_has ls 7 [(0, .ref b9), (1, .ref (a 0)), (2, .ref (bb 0)), (3, .ref o), (4, .int (nI i))] → W p l e room_1 s m #[Value.ref b9] below meth c H locs (cells + 200) (slots + 5000) Q (F0 m 3946 ls [])) : W p l e room_1 s m #[Value.ref b9] below meth c H locs (cells) (slots) Q (F0 m 3932 ls []) := by
  obtain ⟨C, hE, hN, hX, hbl, hl9, hL9, hA, hAB, hbA⟩ := Z
  have hx := C.1
  have hb := C.2.1
  have hml := C.2.2.1
  have hown := C.2.2.2.1
  have hw := C.2.2.2.2
  obtain ⟨hf0, hf1, hf2⟩ := lw_hf hf
  have hf3 := hf2
  refine lv_aload_n hx hb dL_law_3932 rfl (lv_at hl 1 rfl) ?_
  refine rcVf (st1 := [.long (fX0_digest S)]) (as := []) (rest := []) (cl := RX0) C (c_X0_digest l G a S) F_X0_digest rfl bw249 bw250 (hw _ bw251) (hE.S hS hAB) (P_tail (P_tl hP)) (rv2 hE.K (P_tail (P_tl hP)) (q0 := 0) rfl) hl.1 dL_law_3933 ⟨Nat.le_of_ble_eq_true rfl, Nat.le_of_ble_eq_true rfl⟩ rfl (Nat.le_of_ble_eq_true rfl) hf0 rfl ?_
  have hP := P_swap hP
  have hD := D_swap hD
  refine W.widen (k := cells + 30) (n := slots + 800) (by first | exact Nat.le_add_right _ _ | omega) (by first | exact Nat.le_add_right _ _ | omega) ?_
  refine lv_aload_n hx hb dL_law_3936 rfl (lv_at hl 2 rfl) ?_
  refine lwWE (MC := 170) (MS := 4200) (wr := (wH G a o n sv S)) (wd := (wM G bb T)) (as := []) (rest := [.long (fX0_digest S)]) (cl := RX2) (Nat.le_of_ble_eq_true rfl) (Nat.le_of_ble_eq_true rfl) C (u_digest l G bb T (Rel.mo hR)) F_X2_digest rfl bw1624 bw1625 bw1626 (hE.S hS hAB) hP hD hS hA hAB (rv4 hE.K (P_tl (wr := (wH G a o n sv S)) hP) (q0 := 0) rfl) hl.1 dL_law_3937 ⟨(Nat.le_of_ble_eq_true rfl), (Nat.le_of_ble_eq_true rfl)⟩ rfl (Nat.le_of_ble_eq_true rfl) hf2 (fun r9 wd9 H locs hp9 hP hD hS => ?_)
  obtain ⟨rfl, rfl⟩ := hp9
  refine W.eq (g2 := F0 m 3940 ls [.long ((gX2_digest T).1), .long (fX0_digest S)]) rfl ?_
  have hc9 := cmp_digest hR
  refine W.lcmp hx hb dL_law_3940 ?_
  refine lv_if_eq (tgt := 3946) hx hb dL_law_3941 (by decide) (fun _ => ?_) (fun c_x => absurd (lgc_eq.mpr (congrArg Int64.toInt hc9)) c_x)
  refine W.widen (k := cells + 200) (n := slots + 5000) (by first | exact Nat.le_of_eq (Nat.add_assoc _ _ _) | omega) (by first | exact Nat.le_of_eq (Nat.add_assoc _ _ _) | omega) ?_
  exact kk n sv S ((gX2_digest T).2) _ _ ls (rel_digest hR) hP hD hS (lv_sub hl [0, 1, 2, 3, 4] rfl)
