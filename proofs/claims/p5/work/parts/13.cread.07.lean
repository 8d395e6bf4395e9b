set_option maxRecDepth 100000 in
set_option maxHeartbeats 4000000 in
theorem c_X0_houseNumber (l : Launch) (G : GT) (a : Nat → Nat) (S : SX) (p0 : Int32) : RO l G yX0_houseNumber cX0_houseNumber 2 (some .int) 4 [.ref (a 0), .int p0] (wX G a S) (some (.int (fX0_houseNumber S p0))) := by
  refine RO.ofW (own := RX0) rfl (by decide +kernel) (Nat.le_of_ble_eq_true rfl) ?_
  intro p e s m below meth c C hr hk hE hP ls hl
  have hx := C.1
  have hb := C.2.1
  have hown := C.2.2.2.1
  have hw := C.2.2.2.2
  have hl : lv_has ls 2 [(0, .ref (a 0)), (1, .int p0)] := hl
  refine lv_iload_n hx hb dX0_houseNumber_0 rfl (lv_at hl 1 rfl) ?_
  by_cases c_1 : p0 = (0 : Int32)
  · refine lv_tableIn (tgt := 36) (off := 35) hx hb dX0_houseNumber_1 (by rw [c_1]; decide) (by rw [c_1]; decide) (by rw [c_1]; decide) (by decide) ?_
    refine lv_aload_n hx hb dX0_houseNumber_36 rfl (lv_at hl 0 rfl) ?_
    refine va_get (D := gD G) (cl := vwCl) (tys := gT G) (ci := 2) (v := .int (xi S 4)) (C := RX0) (T := TX0) (N := 12) hx hb hw inB_X0 hown hE.K hP 0 rfl rfl 9 (by decide) (hw _ bw103) (fun _ h9 => h9) rfl dX0_houseNumber_37 ?_
    exact re_i hx hb hr hk dX0_houseNumber_40 (ei (if_pos c_1))
  by_cases c_2 : p0 = (1 : Int32)
  · refine lv_tableIn (tgt := 41) (off := 40) hx hb dX0_houseNumber_1 (by rw [c_2]; decide) (by rw [c_2]; decide) (by rw [c_2]; decide) (by decide) ?_
    refine lv_aload_n hx hb dX0_houseNumber_41 rfl (lv_at hl 0 rfl) ?_
    refine va_get (D := gD G) (cl := vwCl) (tys := gT G) (ci := 2) (v := .int (xi S 5)) (C := RX0) (T := TX0) (N := 12) hx hb hw inB_X0 hown hE.K hP 0 rfl rfl 10 (by decide) (hw _ bw104) (fun _ h9 => h9) rfl dX0_houseNumber_42 ?_
    exact re_i hx hb hr hk dX0_houseNumber_45 (ei (Eq.trans (if_neg c_1) (if_pos c_2)))
  by_cases c_3 : p0 = (2 : Int32)
  · refine lv_tableIn (tgt := 46) (off := 45) hx hb dX0_houseNumber_1 (by rw [c_3]; decide) (by rw [c_3]; decide) (by rw [c_3]; decide) (by decide) ?_
    refine lv_aload_n hx hb dX0_houseNumber_46 rfl (lv_at hl 0 rfl) ?_
    refine rcVi (as := []) (rest := []) (cl := RX0) C (c_X0_countRepeated l G a S) F_X0_countRepeated rfl bw274 bw276 bw14 hE hP (va_recv hE.K hP (ci := 2) (q0 := 0) rfl rfl) hl.1 dX0_houseNumber_47 ⟨Nat.le_of_ble_eq_true rfl, Nat.le_of_ble_eq_true rfl⟩ rfl (Nat.le_of_ble_eq_true rfl) ⟨Nat.zero_le _, Nat.zero_le _⟩ ?_
    exact re_i hx hb hr hk dX0_houseNumber_50 (ei (Eq.trans (if_neg c_1) (Eq.trans (if_neg c_2) (if_pos c_3))))
  by_cases c_4 : p0 = (3 : Int32)
  · refine lv_tableIn (tgt := 51) (off := 50) hx hb dX0_houseNumber_1 (by rw [c_4]; decide) (by rw [c_4]; decide) (by rw [c_4]; decide) (by decide) ?_
    refine lv_aload_n hx hb dX0_houseNumber_51 rfl (lv_at hl 0 rfl) ?_
    refine lv_iconst (v := (-1 : Int32)) hx hb dX0_houseNumber_52 (by decide) ?_
    refine rcVi (as := [.int (-1 : Int32)]) (rest := []) (cl := RX0) C (c_X0_outermost l G a S (-1 : Int32)) F_X0_outermost rfl bw282 bw284 bw16 hE hP (va_recv hE.K hP (ci := 2) (q0 := 0) rfl rfl) hl.1 dX0_houseNumber_53 ⟨Nat.le_of_ble_eq_true rfl, Nat.le_of_ble_eq_true rfl⟩ rfl (Nat.le_of_ble_eq_true rfl) ⟨Nat.zero_le _, Nat.zero_le _⟩ ?_
    exact re_i hx hb hr hk dX0_houseNumber_56 (ei (Eq.trans (if_neg c_1) (Eq.trans (if_neg c_2) (Eq.trans (if_neg c_3) (if_pos c_4)))))
  by_cases c_5 : p0 = (4 : Int32)
  · refine lv_tableIn (tgt := 57) (off := 56) hx hb dX0_houseNumber_1 (by rw [c_5]; decide) (by rw [c_5]; decide) (by rw [c_5]; decide) (by decide) ?_
    refine lv_aload_n hx hb dX0_houseNumber_57 rfl (lv_at hl 0 rfl) ?_
    refine lv_iconst (v := (1 : Int32)) hx hb dX0_houseNumber_58 (by decide) ?_
    refine rcVi (as := [.int (1 : Int32)]) (rest := []) (cl := RX0) C (c_X0_outermost l G a S (1 : Int32)) F_X0_outermost rfl bw282 bw284 bw16 hE hP (va_recv hE.K hP (ci := 2) (q0 := 0) rfl rfl) hl.1 dX0_houseNumber_59 ⟨Nat.le_of_ble_eq_true rfl, Nat.le_of_ble_eq_true rfl⟩ rfl (Nat.le_of_ble_eq_true rfl) ⟨Nat.zero_le _, Nat.zero_le _⟩ ?_
    exact re_i hx hb hr hk dX0_houseNumber_62 (ei (Eq.trans (if_neg c_1) (Eq.trans (if_neg c_2) (Eq.trans (if_neg c_3) (Eq.trans (if_neg c_4) (if_pos c_5))))))
  have nc_1 := lv_neT c_1 (a := 0) (by decide)
  have nc_2 := lv_neT c_2 (a := 1) (by decide)
  have nc_3 := lv_neT c_3 (a := 2) (by decide)
  have nc_4 := lv_neT c_4 (a := 3) (by decide)
  have nc_5 := lv_neT c_5 (a := 4) (by decide)
  refine lv_tableOut (tgt := 63) hx hb dX0_houseNumber_1 (by omega) (by decide) ?_
  refine lv_aload_n hx hb dX0_houseNumber_63 rfl (lv_at hl 0 rfl) ?_
  refine va_get (D := gD G) (cl := vwCl) (tys := gT G) (ci := 2) (v := .int (xi S 6)) (C := RX0) (T := TX0) (N := 12) hx hb hw inB_X0 hown hE.K hP 0 rfl rfl 11 (by decide) (hw _ bw105) (fun _ h9 => h9) rfl dX0_houseNumber_64 ?_
  exact re_i hx hb hr hk dX0_houseNumber_67 (ei (Eq.trans (if_neg c_1) (Eq.trans (if_neg c_2) (Eq.trans (if_neg c_3) (Eq.trans (if_neg c_4) (if_neg c_5))))))

