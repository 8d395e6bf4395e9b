set_option maxRecDepth 100000 in
set_option maxHeartbeats 4000000 in
theorem t_nanoOfDay (l : Launch) (G : GT) (a : Nat → Nat) (S : SX) (p0 : Int32) (h0 : vp_in p0 6) : WE l G yX0_nanoOfDay cX0_nanoOfDay 2 (some (.object "java/lang/String")) 9 30 800 [.ref (a 0), .int p0] (wX G a S) (fun r wd => (∃ q : Nat, r = some (.ref q)) ∧ wd = wX G a (gX0_nanoOfDay S p0)) := by
  refine WE.ofW (own := RX0) rfl (by decide +kernel) (Nat.le_of_ble_eq_true rfl) ?_
  intro p e s m below meth c A C hr hk hnm hE hP hD hA hAB hS ls hl
  have hx := C.1
  have hb := C.2.1
  have hml := C.2.2.1
  have hown := C.2.2.2.1
  have hw := C.2.2.2.2
  have hl : lv_has ls 2 [(0, .ref (a 0)), (1, .int p0)] := hl
  refine lv_iload_n hx hb dX0_nanoOfDay_0 rfl (lv_at hl 1 rfl) ?_
  refine rcSv (as := [.int p0]) (rest := []) C (c_X0_checkMoment l G p0 h0) F_X0_checkMoment rfl bw387 bw388 (hE.S hS hAB) vpn hl.1 dX0_nanoOfDay_1 ⟨Nat.le_of_ble_eq_true rfl, Nat.le_of_ble_eq_true rfl⟩ rfl (Nat.le_of_ble_eq_true rfl) ⟨Nat.le_of_ble_eq_true rfl, Nat.le_of_ble_eq_true rfl⟩ ?_
  refine lv_aload_n hx hb dX0_nanoOfDay_4 rfl (lv_at hl 0 rfl) ?_
  refine va_get (D := gD G) (cl := vwCl) (tys := gT G) (ci := 2) (v := .ref (a 5)) (C := RX0) (T := TX0) (N := 12) hx hb hw inB_X0 hown hE.K hP 0 rfl rfl 4 (by decide) (hw _ bw98) (fun _ h9 => h9) rfl dX0_nanoOfDay_5 ?_
  refine lv_iload_n hx hb dX0_nanoOfDay_8 rfl (lv_at hl 1 rfl) ?_
  refine va_lald (tys := gT G) hx hb hE.K hP 5 1 rfl rfl h0 dX0_nanoOfDay_9 ?_
  have hP9 := P_nil hP
  have hD9 := D_nil hD
  refine weS (wr := (wX G a S)) (wd := []) (as := [.long ((xN S) p0.toNatClampNeg)]) (rest := []) C (s_digitsOf l G ((xN S) p0.toNatClampNeg)) F_X0_digitsOf rfl bw774 bw775 (hE.S hS hAB) hP9 hD9 hS hA hAB hl.1 dX0_nanoOfDay_10 ⟨Nat.le_of_ble_eq_true rfl, Nat.le_of_ble_eq_true rfl⟩ rfl (Nat.le_of_ble_eq_true rfl) ⟨Nat.le_of_ble_eq_true rfl, Nat.le_of_ble_eq_true rfl⟩ (fun r9 wd9 H locs hp9 hP hD hS => ?_)
  obtain ⟨⟨q9_10, rfl⟩, rfl⟩ := hp9
  have hP : va_P (gD G) vwCl (wX G a S) H := by rw [List.append_nil] at hP; exact hP
  have hD : va_D A (wX G a S) := by rw [List.append_nil] at hD; exact hD
  refine W.eq (g2 := F0 m 13 ls [.ref q9_10]) rfl ?_
  exact weA hx hb hr (Or.inl ⟨_, rfl⟩) hk ⟨⟨_, rfl⟩, (congrArg (wX G a) (show gX0_nanoOfDay S p0 = S from rfl).symm)⟩ hP hD hS (Nat.le_of_ble_eq_true rfl) (Nat.le_of_ble_eq_true rfl) dX0_nanoOfDay_13

