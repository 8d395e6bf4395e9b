set_option maxRecDepth 100000 in
set_option maxHeartbeats 4000000 in
theorem whole_start {p : Program} {e : Env} {s : State} {m : MethodId} {below : List Frame} {meth : Method} {c : Code} (l : Launch) (hflags : l.flags = flags0) {b L : Nat} {xs : Nat → Int32} (hL : L ≤ 3072) (C0 : lw_At p s m meth c b L xs) : W p l e room_1 s m #[Value.ref b] below meth c s.heap [] 0 0 (lw_Z below #[Value.ref b] s) (entryFrame m ([Value.ref b] : List Value).toArray 7) := by
  obtain ⟨hx, hb, hr, hml, hown, hts, hX, hbl, hlocks, hgv⟩ := id C0
  have hl9 : l.stackTraces = false := by rw [Launch.stackTraces, hflags]; decide +kernel
  have hw : ∀ w ∈ BW, w.before #[Value.ref b] s = true := fun w h => xsel_ok hts w (tBW h)
  obtain ⟨G, hG, hE⟩ := ev_start hts hgv
  have hN := ne_start hts hgv
  have hA : ∀ q : Nat, s.heap.size ≤ q → (fun q : Nat => s.heap.size ≤ q) q := fun _ h => h
  have hAB : ∀ q : Nat, (fun q : Nat => s.heap.size ≤ q) q → gB G ≤ q := fun q h => by rw [hG]; exact h
  have hbA : ¬ (fun q : Nat => s.heap.size ≤ q) b := Nat.not_le.mpr hbl
  have hS : va_S (fun q : Nat => s.heap.size ≤ q) s.heap s.heap [] := va_S.rf
  have hP : va_P (gD G) vwCl [] s.heap := vpn
  have hD : va_D (fun q : Nat => s.heap.size ≤ q) [] := vdn _
  have hl := lv_entry ([.ref b]) (n := 7) (Nat.le_of_ble_eq_true rfl)
  rw [lg_entry_eq]
  generalize (lg_sl ([.ref b]) ++ List.replicate (7 - (lg_sl ([.ref b])).length) Slot.unset).toArray = ls at hl ⊢
  have hl : lv_has ls 7 [(0, .ref b)] := hl
  have C : CallFix p m c code 7 s #[Value.ref b] BW R_law := ⟨hx, hb, hml, hown, hw⟩
  refine va_new (D := gD G) (cl := vwCl) (tys := gT G) (ws := []) (ci := 2) (fs := [.null, .null, .null, .null, .null, .int 0, .int 0, .int 0, .int 0, .int 0, .int 0, .int 0]) (C := RX0) (T := TX0) (N := 12) hx hb hw inB_X0 tyX0 tyX0_ok hown (hw _ bw78) (hw _ bw79) (hw _ bw57) hE.K hP hD hS hA rfl (fun j hj => by rcases (show j = 0 ∨ j = 1 ∨ j = 2 ∨ j = 3 ∨ j = 4 ∨ j = 5 ∨ j = 6 ∨ j = 7 ∨ j = 8 ∨ j = 9 ∨ j = 10 ∨ j = 11 by omega) with rfl | rfl | rfl | rfl | rfl | rfl | rfl | rfl | rfl | rfl | rfl | rfl <;> rfl) (Nat.le_of_ble_eq_true rfl) (Nat.le_of_ble_eq_true rfl) dL_law_0 (fun q0 H hP hD hS => ?_)
  have hP : va_P (gD G) vwCl ([(q0, .inr (2, [.null, .null, .null, .null, .null, .int 0, .int 0, .int 0, .int 0, .int 0, .int 0, .int 0]))]) H := hP
  have hD : va_D (fun q : Nat => s.heap.size ≤ q) ([(q0, .inr (2, [.null, .null, .null, .null, .null, .int 0, .int 0, .int 0, .int 0, .int 0, .int 0, .int 0]))]) := hD
  refine lv_dup hx hb dL_law_3 rfl ?_
  refine weI (wr := []) (wd := [(q0, .inr (2, [.null, .null, .null, .null, .null, .int 0, .int 0, .int 0, .int 0, .int 0, .int 0, .int 0]))]) (as := []) (rest := [.ref q0]) C (i_X0_init l G q0) F_X0_init rfl bw80 bw81 rfl (hE.S hS hAB) hP hD hS hA hAB hl.1 dL_law_4 ⟨(Nat.le_of_ble_eq_true rfl), (Nat.le_of_ble_eq_true rfl)⟩ rfl (Nat.le_of_ble_eq_true rfl) ⟨(Nat.le_of_ble_eq_true rfl), (Nat.le_of_ble_eq_true rfl)⟩ (fun r9 wd9 H locs hp9 hP hD hS => ?_)
  obtain ⟨rfl, a, rfl, rfl⟩ := hp9
  have hP : va_P (gD G) vwCl ((wX G a sx0)) H := hP
  have hD : va_D (fun q : Nat => s.heap.size ≤ q) ((wX G a sx0)) := hD
  refine W.eq (g2 := F0 m 7 ls [.ref (a 0)]) rfl ?_
  refine lv_astore_n (lv' := [(1, .ref (a 0)), (0, .ref b)]) hx hb dL_law_7 rfl hl (Nat.le_of_ble_eq_true rfl) rfl (fun ls hl => ?_)
  refine va_new (D := gD G) (cl := vwCl) (tys := gT G) (ws := ((wX G a sx0))) (ci := 4) (fs := [.int 0, .null, .null, .null, .null, .int 0, .int 0, .int 0, .int 0, .int 0, .int 0, .int 0]) (C := RX2) (T := TX2) (N := 12) hx hb hw inB_X2 tyX2 tyX2_ok hown (hw _ bw1157) (hw _ bw1158) (hw _ bw59) hE.K hP hD hS hA rfl (fun j hj => by rcases (show j = 0 ∨ j = 1 ∨ j = 2 ∨ j = 3 ∨ j = 4 ∨ j = 5 ∨ j = 6 ∨ j = 7 ∨ j = 8 ∨ j = 9 ∨ j = 10 ∨ j = 11 by omega) with rfl | rfl | rfl | rfl | rfl | rfl | rfl | rfl | rfl | rfl | rfl | rfl <;> rfl) (Nat.le_of_ble_eq_true rfl) (Nat.le_of_ble_eq_true rfl) dL_law_8 (fun q8 H hP hD hS => ?_)
  have hP : va_P (gD G) vwCl ((wX G a sx0) ++ [(q8, .inr (4, [.int 0, .null, .null, .null, .null, .int 0, .int 0, .int 0, .int 0, .int 0, .int 0, .int 0]))]) H := hP
  have hD : va_D (fun q : Nat => s.heap.size ≤ q) ((wX G a sx0) ++ [(q8, .inr (4, [.int 0, .null, .null, .null, .null, .int 0, .int 0, .int 0, .int 0, .int 0, .int 0, .int 0]))]) := hD
  refine lv_dup hx hb dL_law_11 rfl ?_
  refine weI (wr := ((wX G a sx0))) (wd := [(q8, .inr (4, [.int 0, .null, .null, .null, .null, .int 0, .int 0, .int 0, .int 0, .int 0, .int 0, .int 0]))]) (as := []) (rest := [.ref q8]) C (i_X2_init l G q8) F_X2_init rfl bw1159 bw1160 rfl (hE.S hS hAB) hP hD hS hA hAB hl.1 dL_law_12 ⟨(Nat.le_of_ble_eq_true rfl), (Nat.le_of_ble_eq_true rfl)⟩ rfl (Nat.le_of_ble_eq_true rfl) ⟨(Nat.le_of_ble_eq_true rfl), (Nat.le_of_ble_eq_true rfl)⟩ (fun r9 wd9 H locs hp9 hP hD hS => ?_)
  obtain ⟨rfl, bb, rfl, rfl⟩ := hp9
  have hP : va_P (gD G) vwCl ((wX G a sx0) ++ (wM G bb sm0)) H := hP
  have hD : va_D (fun q : Nat => s.heap.size ≤ q) ((wX G a sx0) ++ (wM G bb sm0)) := hD
  refine W.eq (g2 := F0 m 15 ls [.ref (bb 0)]) rfl ?_
  refine lv_astore_n (lv' := [(2, .ref (bb 0)), (1, .ref (a 0)), (0, .ref b)]) hx hb dL_law_15 rfl hl (Nat.le_of_ble_eq_true rfl) rfl (fun ls hl => ?_)
  refine va_new (D := gD G) (cl := vwCl) (tys := gT G) (ws := ((wX G a sx0) ++ (wM G bb sm0))) (ci := 3) (fs := [.long 0, .null]) (C := RX1) (T := TX1) (N := 2) hx hb hw inB_X1 tyX1 tyX1_ok hown (hw _ bw287) (hw _ bw288) (hw _ bw60) hE.K hP hD hS hA rfl (fun j hj => by rcases (show j = 0 ∨ j = 1 by omega) with rfl | rfl <;> rfl) (Nat.le_of_ble_eq_true rfl) (Nat.le_of_ble_eq_true rfl) dL_law_16 (fun q16 H hP hD hS => ?_)
  have hP : va_P (gD G) vwCl ((wX G a sx0) ++ (wM G bb sm0) ++ [(q16, .inr (3, [.long 0, .null]))]) H := hP
  have hD : va_D (fun q : Nat => s.heap.size ≤ q) ((wX G a sx0) ++ (wM G bb sm0) ++ [(q16, .inr (3, [.long 0, .null]))]) := hD
  refine lv_dup hx hb dL_law_19 rfl ?_
  refine weIN (wr := ((wX G a sx0) ++ (wM G bb sm0))) (wd := [(q16, .inr (3, [.long 0, .null]))]) (as := []) (rest := [.ref q16]) C (i_X1_init l G q16) F_X1_init rfl (va_Nw.of (A := #[Value.ref b]) rfl (hts (Cond.methodLinkNest RL 196 yX1_init "DaytimepairLaw") (by decide +kernel))) bw290 rfl (hE.S hS hAB) hP hD hS hA hAB hl.1 dL_law_20 ⟨(Nat.le_of_ble_eq_true rfl), (Nat.le_of_ble_eq_true rfl)⟩ rfl (Nat.le_of_ble_eq_true rfl) ⟨(Nat.le_of_ble_eq_true rfl), (Nat.le_of_ble_eq_true rfl)⟩ (fun r9 wd9 H locs hp9 hP hD hS => ?_)
  obtain ⟨rfl, rfl⟩ := hp9
  have hP : va_P (gD G) vwCl ((wX G a sx0) ++ (wM G bb sm0) ++ [(q16, .inr (3, [.long 0, .null]))]) H := hP
  have hD : va_D (fun q : Nat => s.heap.size ≤ q) ((wX G a sx0) ++ (wM G bb sm0) ++ [(q16, .inr (3, [.long 0, .null]))]) := hD
  refine W.eq (g2 := F0 m 23 ls [.ref q16]) rfl ?_
  refine lv_astore_n (lv' := [(3, .ref q16), (2, .ref (bb 0)), (1, .ref (a 0)), (0, .ref b)]) hx hb dL_law_23 rfl hl (Nat.le_of_ble_eq_true rfl) rfl (fun ls hl => ?_)
  refine lv_iconst (v := (0 : Int32)) hx hb dL_law_24 qi_0 ?_
  refine lv_istore (lv' := [(4, .int (0 : Int32)), (3, .ref q16), (2, .ref (bb 0)), (1, .ref (a 0)), (0, .ref b)]) hx hb dL_law_25 hl (Nat.le_of_ble_eq_true rfl) rfl (fun ls hl => ?_)
  have hP : va_P (gD G) vwCl (wM G bb sm0 ++ wH G a q16 0 .null sx0) H := hP.sub [6, 7, 8, 9, 10, 11, 0, 1, 2, 3, 4, 5] rfl
  have hD : va_D (fun q : Nat => s.heap.size ≤ q) (wM G bb sm0 ++ wH G a q16 0 .null sx0) := hD.sub [6, 7, 8, 9, 10, 11, 0, 1, 2, 3, 4, 5] (by decide) rfl
  refine W.widen (k := 14) (n := 100) (by decide) (by decide) ?_
  exact law_loop (b9 := b) ⟨C, hE, hN, hX, hbl, hl9, hL, hA, hAB, hbA⟩ hr hlocks 513 0 14 100 (by omega) (by decide) 0 .null sx0 sm0 _ _ ls rel_init hP hD hS (lv_sub hl [4, 3, 2, 1, 0] rfl) (by decide) (by decide)
