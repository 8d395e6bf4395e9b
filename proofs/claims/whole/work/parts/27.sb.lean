theorem inB_J4 : ∀ w ∈ u_ws RJ4 TJ4 4, w ∈ BW := by
  have h : ∀ w ∈ u_ws RJ4 TJ4 4, w ∈ lw_tbl := by decide +kernel
  have g : ∀ w ∈ u_ws RJ4 TJ4 4, goodWord w = true := by decide +kernel
  exact fun w hw => lBW (h w hw) (g w hw)
def wB (G : GT) (o v m : Nat) (z n : Int32) (f : Nat → Int32) : va_W := [(o, .inr (1, [.ref v, .int 0, .int z, .int n])), (v, .inl (gC G 2, m, .inl f))]
set_option maxRecDepth 100000 in
set_option maxHeartbeats 4000000 in
theorem i_J5_init_d00df (l : Launch) (G : GT) (o : Nat) : WE l G yJ5_init_d00df cJ5_init_d00df 2 none 2 1 16 [.ref o, .int 16] [(o, .inr (1, [.null, .int 0, .int 0, .int 0]))] (fun r wd => r = none ∧ ∃ v : Nat, wd = wB G o v 16 0 0 (fun _ => 0)) := by
  refine WE.ofW (own := RJ5) rfl (plainFor_of_name pnN_RJ5) (Nat.le_of_ble_eq_true rfl) ?_
  intro p e s m below meth c A C hr hk hnm hE hP hD hA hAB hS ls hl
  have hS0 : va_S (gA G) s.heap s.heap [] := va_S.rf
  have hx := C.1
  have hb := C.2.1
  have hml := C.2.2.1
  have hown := C.2.2.2.1
  have hw := C.2.2.2.2
  have hl : lv_has ls 2 [(0, .ref o), (1, .int 16)] := hl
  refine lv_aload_n hx hb dJ5_init_d00df_0 rfl (lv_at hl 0 rfl) ?_
  refine W.objInit hx hb hown (hw _ bw785) (hw _ bw84) (hw _ bw85) rfl (by rw [hml]; exact hl.1) rfl dJ5_init_d00df_1 (Nat.le_of_ble_eq_true rfl) (Nat.le_of_ble_eq_true rfl) ?_
  refine W.eq (g2 := F0 m 4 ls []) rfl ?_
  refine va_gets hx hb hE.2.2.2.2.2.2.1 hS0 hown (hw _ bw786) (fun _ h9 => h9) dJ5_init_d00df_4 ?_
  refine lv_if_eq (tgt := 25) hx hb dJ5_init_d00df_7 (by decide) (fun c_x => absurd c_x (by decide)) (fun _ => ?_)
  refine lv_aload_n hx hb dJ5_init_d00df_10 rfl (lv_at hl 0 rfl) ?_
  refine lv_iload_n hx hb dJ5_init_d00df_11 rfl (lv_at hl 1 rfl) ?_
  refine nwB (N' := 16) hx hb (hw _ bw377) hE.K hP hD hS hA (by decide) (by decide) (by decide) (Nat.le_of_ble_eq_true rfl) (Nat.le_of_ble_eq_true rfl) dJ5_init_d00df_12 (fun q12 H hP hD hS => ?_)
  have hP : va_P (gD G) vwCl [(o, .inr (1, [.null, .int 0, .int 0, .int 0])), (q12, .inl (gC G 2, 16, .inl (fun _ => 0)))] H := hP
  have hD : va_D A [(o, .inr (1, [.null, .int 0, .int 0, .int 0])), (q12, .inl (gC G 2, 16, .inl (fun _ => 0)))] := hD
  refine va_put (D := gD G) (cl := vwCl) (tys := gT G) (ci := 1) (v := .ref q12) (ty := tyJ4 0) (C := RJ4) (T := TJ4) (N := 4) hx hb hw inB_J4 tyJ4 tyJ4_ok nmJ4 hown hE.K hP hD hS 0 rfl rfl 0 (by decide) (hw _ bw795) (fun _ h9 => h9) rfl (by decide +kernel) rfl rfl (Nat.le_of_ble_eq_true rfl) dJ5_init_d00df_14 (fun H locs hP hD hS => ?_)
  have hP : va_P (gD G) vwCl [(o, .inr (1, [.ref q12, .int 0, .int 0, .int 0])), (q12, .inl (gC G 2, 16, .inl (fun _ => 0)))] H := hP
  have hD : va_D A [(o, .inr (1, [.ref q12, .int 0, .int 0, .int 0])), (q12, .inl (gC G 2, 16, .inl (fun _ => 0)))] := hD
  refine lv_aload_n hx hb dJ5_init_d00df_17 rfl (lv_at hl 0 rfl) ?_
  refine lv_iconst (v := (0 : Int32)) hx hb dJ5_init_d00df_18 qi_0 ?_
  refine va_put (D := gD G) (cl := vwCl) (tys := gT G) (ci := 1) (v := .int (0 : Int32)) (ty := tyJ4 1) (C := RJ4) (T := TJ4) (N := 4) hx hb hw inB_J4 tyJ4 tyJ4_ok nmJ4 hown hE.K hP hD hS 0 rfl rfl 1 (by decide) (hw _ bw796) (fun _ h9 => h9) rfl (by decide +kernel) rfl rfl (Nat.le_of_ble_eq_true rfl) dJ5_init_d00df_19 (fun H locs hP hD hS => ?_)
  have hP : va_P (gD G) vwCl [(o, .inr (1, [.ref q12, .int (0 : Int32), .int 0, .int 0])), (q12, .inl (gC G 2, 16, .inl (fun _ => 0)))] H := hP
  have hD : va_D A [(o, .inr (1, [.ref q12, .int (0 : Int32), .int 0, .int 0])), (q12, .inl (gC G 2, 16, .inl (fun _ => 0)))] := hD
  refine lv_goto (tgt := 38) hx hb dJ5_init_d00df_22 (by decide) ?_
  exact we_v hx hb hr hk ⟨rfl, q12, rfl⟩ hP hD hS (Nat.le_of_ble_eq_true rfl) (Nat.le_of_ble_eq_true rfl) dJ5_init_d00df_38

set_option maxRecDepth 100000 in
set_option maxHeartbeats 4000000 in
theorem i_J4_init_da8c8 (l : Launch) (G : GT) (o : Nat) : WE l G yJ4_init_da8c8 cJ4_init_da8c8 1 none 3 1 16 [.ref o] [(o, .inr (1, [.null, .int 0, .int 0, .int 0]))] (fun r wd => r = none ∧ ∃ v : Nat, wd = wB G o v 16 0 0 (fun _ => 0)) := by
  refine WE.ofW (own := RJ4) rfl (plainFor_of_name pnN_RJ4) (Nat.le_of_ble_eq_true rfl) ?_
  intro p e s m below meth c A C hr hk hnm hE hP hD hA hAB hS ls hl
  have hx := C.1
  have hb := C.2.1
  have hown := C.2.2.2.1
  have hw := C.2.2.2.2
  have hl : lv_has ls 1 [(0, .ref o)] := hl
  refine lv_aload_n hx hb dJ4_init_da8c8_0 rfl (lv_at hl 0 rfl) ?_
  refine lv_bipush (v := (16 : Int32)) hx hb dJ4_init_da8c8_1 qb_16 ?_
  refine weI (wr := []) (as := [.int 16]) (rest := []) C (i_J5_init_d00df l G o) F_J5_init_d00df rfl bw782 bw783 rfl hE hP hD hS hA hAB hl.1 dJ4_init_da8c8_3 ⟨Nat.le_of_ble_eq_true rfl, Nat.le_of_ble_eq_true rfl⟩ rfl (Nat.le_of_ble_eq_true rfl) ⟨Nat.le_of_ble_eq_true rfl, Nat.le_of_ble_eq_true rfl⟩ (fun r wd9 H locs hp hP hD hS => ?_)
  obtain ⟨rfl, v, rfl⟩ := hp
  exact we_v hx hb hr hk ⟨rfl, v, rfl⟩ hP hD hS (Nat.le_of_ble_eq_true rfl) (Nat.le_of_ble_eq_true rfl) dJ4_init_da8c8_6
