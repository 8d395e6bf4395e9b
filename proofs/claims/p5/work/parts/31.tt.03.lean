set_option maxRecDepth 100000 in
set_option maxHeartbeats 4000000 in
theorem t_between (l : Launch) (G : GT) (a : Nat → Nat) (S : SX) (p0 : Int32) (p1 : Int32) (p2 : Int32) (h0 : vp_in p0 6) (h1 : vp_in p1 6) (r2 : ¬ p2 < (0 : Int32)) (q2 : p2 ≤ (13 : Int32)) : WE l G yX0_between cX0_between 4 (some (.object "java/lang/String")) 10 30 800 [.ref (a 0), .int p0, .int p1, .int p2] (wX G a S) (fun r wd => (∃ q : Nat, r = some (.ref q)) ∧ wd = wX G a (gX0_between S p0 p1 p2)) := by
  refine WE.ofW (own := RX0) rfl (by decide +kernel) (Nat.le_of_ble_eq_true rfl) ?_
  intro p e s m below meth c A C hr hk hnm hE hP hD hA hAB hS ls hl
  have hx := C.1
  have hb := C.2.1
  have hml := C.2.2.1
  have hown := C.2.2.2.1
  have hw := C.2.2.2.2
  have hl : lv_has ls 4 [(0, .ref (a 0)), (1, .int p0), (2, .int p1), (3, .int p2)] := hl
  refine lv_iload_n hx hb dX0_between_0 rfl (lv_at hl 1 rfl) ?_
  refine rcSv (as := [.int p0]) (rest := []) C (c_X0_checkMoment l G p0 h0) F_X0_checkMoment rfl bw387 bw388 (hE.S hS hAB) vpn hl.1 dX0_between_1 ⟨Nat.le_of_ble_eq_true rfl, Nat.le_of_ble_eq_true rfl⟩ rfl (Nat.le_of_ble_eq_true rfl) ⟨Nat.le_of_ble_eq_true rfl, Nat.le_of_ble_eq_true rfl⟩ ?_
  refine lv_iload_n hx hb dX0_between_4 rfl (lv_at hl 2 rfl) ?_
  refine rcSv (as := [.int p1]) (rest := []) C (c_X0_checkMoment l G p1 h1) F_X0_checkMoment rfl bw387 bw388 (hE.S hS hAB) vpn hl.1 dX0_between_5 ⟨Nat.le_of_ble_eq_true rfl, Nat.le_of_ble_eq_true rfl⟩ rfl (Nat.le_of_ble_eq_true rfl) ⟨Nat.le_of_ble_eq_true rfl, Nat.le_of_ble_eq_true rfl⟩ ?_
  refine lv_iload_n hx hb dX0_between_8 rfl (lv_at hl 3 rfl) ?_
  refine lv_iconst (v := (0 : Int32)) hx hb dX0_between_9 (by decide) ?_
  refine lv_bipush (v := (13 : Int32)) hx hb dX0_between_10 (by decide) ?_
  refine rcSv (as := [.int p2, .int (0 : Int32), .int (13 : Int32)]) (rest := []) C (c_X0_checkRange l G p2 (0 : Int32) (13 : Int32) r2 q2) F_X0_checkRange rfl bw308 bw309 (hE.S hS hAB) vpn hl.1 dX0_between_12 ⟨Nat.le_of_ble_eq_true rfl, Nat.le_of_ble_eq_true rfl⟩ rfl (Nat.le_of_ble_eq_true rfl) ⟨Nat.le_of_ble_eq_true rfl, Nat.le_of_ble_eq_true rfl⟩ ?_
  refine lv_aload_n hx hb dX0_between_15 rfl (lv_at hl 0 rfl) ?_
  refine lv_iload_n hx hb dX0_between_16 rfl (lv_at hl 1 rfl) ?_
  refine lv_iload_n hx hb dX0_between_17 rfl (lv_at hl 2 rfl) ?_
  refine lv_iload_n hx hb dX0_between_18 rfl (lv_at hl 3 rfl) ?_
  refine weVf (wr := []) (wd := (wX G a S)) (as := [.int p0, .int p1, .int p2]) (rest := []) (cl := RX0) C (t_gapText l G a S p0 p1 p2 h0 h1) F_X0_gapText rfl bw1125 bw1127 (hw _ bw29) (hE.S hS hAB) hP hD hS hA hAB (va_recv hE.K hP (ci := 2) (q0 := 0) rfl rfl) hl.1 dX0_between_19 ⟨Nat.le_of_ble_eq_true rfl, Nat.le_of_ble_eq_true rfl⟩ rfl (Nat.le_of_ble_eq_true rfl) ⟨Nat.le_of_ble_eq_true rfl, Nat.le_of_ble_eq_true rfl⟩ (fun r9 wd9 H locs hp9 hP hD hS => ?_)
  obtain ⟨⟨q9_19, rfl⟩, rfl⟩ := hp9
  have hP : va_P (gD G) vwCl (wX G a (gX0_gapText S p0 p1 p2)) H := hP
  have hD : va_D A (wX G a (gX0_gapText S p0 p1 p2)) := hD
  refine W.eq (g2 := F0 m 22 ls [.ref q9_19]) rfl ?_
  exact weA hx hb hr (Or.inl ⟨_, rfl⟩) hk ⟨⟨_, rfl⟩, (congrArg (wX G a) (show gX0_between S p0 p1 p2 = (gX0_gapText S p0 p1 p2) from rfl).symm)⟩ hP hD hS (Nat.le_of_ble_eq_true rfl) (Nat.le_of_ble_eq_true rfl) dX0_between_22

