set_option maxRecDepth 100000 in
set_option maxHeartbeats 4000000 in
theorem c_X2_hand (l : Launch) (G : GT) (b : Nat → Nat) (T : SM) (p0 : Int32) (p1 : Int32) (p2 : Int32) (p3 : Int32) (hT : MO T) : WR l G yX2_hand cX2_hand 6 (some .int) 12 0 0 [.ref (b 0), .int p0, .int p1, .int p2, .int p3] (wM G b T) (wM G b (gX2_hand T p0 p1 p2 p3).2) (some (.int (gX2_hand T p0 p1 p2 p3).1)) := by
  refine WR.ofW (own := RX2) rfl (by decide +kernel) (Nat.le_of_ble_eq_true rfl) ?_
  intro p e s m below meth c A C hr hk hnm hE hP hD hA hAB hS ls hl
  have hx := C.1
  have hb := C.2.1
  have hown := C.2.2.2.1
  have hw := C.2.2.2.2
  have hl : lv_has ls 6 [(0, .ref (b 0)), (1, .int p0), (2, .int p1), (3, .int p2), (4, .int p3)] := hl
  refine lv_aload_n hx hb dX2_hand_0 rfl (lv_at hl 0 rfl) ?_
  refine lv_iconst (v := (0 : Int32)) hx hb dX2_hand_1 (by decide) ?_
  refine lv_bipush (v := (23 : Int32)) hx hb dX2_hand_2 (by decide) ?_
  refine lv_iload_n hx hb dX2_hand_4 rfl (lv_at hl 1 rfl) ?_
  refine rcSi (as := [.int (0 : Int32), .int (23 : Int32), .int p0]) (rest := [.ref (b 0)]) C (c_X2_isFrom l G (0 : Int32) (23 : Int32) p0) F_X2_isFrom rfl bw1208 bw1209 (hE.S hS hAB) vpn hl.1 dX2_hand_5 ⟨Nat.le_of_ble_eq_true rfl, Nat.le_of_ble_eq_true rfl⟩ rfl (Nat.le_of_ble_eq_true rfl) ⟨Nat.le_of_ble_eq_true rfl, Nat.le_of_ble_eq_true rfl⟩ ?_
  refine lv_if_eq (tgt := 46) hx hb dX2_hand_8 (by decide) (fun c_1 => ?_) (fun c_1 => ?_)
  · refine lv_iconst (v := (1 : Int32)) hx hb dX2_hand_46 (by decide) ?_
    refine va_put (D := gD G) (cl := vwCl) (tys := gT G) (ci := 4) (v := .int (1 : Int32)) (ty := .int) (C := RX2) (T := TX2) (N := 12) hx hb hw inB_X2 tyX2 tyX2_ok nmX2 hown hE.K hP hD hS 0 rfl rfl 0 (by decide) (hw _ bw1163) (fun _ h9 => h9) rfl (by decide +kernel) rfl rfl (Nat.le_of_ble_eq_true rfl) dX2_hand_47 (fun H locs hP hD hS => ?_)
    have hP : va_P (gD G) vwCl (wM G b ((1 : Int32), (my T), (mm T), (md T), (mt T), (T.2.2.2.2.2))) H := hP
    have hD : va_D A (wM G b ((1 : Int32), (my T), (mm T), (md T), (mt T), (T.2.2.2.2.2))) := hD
    refine lv_aload_n hx hb dX2_hand_50 rfl (lv_at hl 0 rfl) ?_
    refine va_get (D := gD G) (cl := vwCl) (tys := gT G) (ci := 4) (v := .int (1 : Int32)) (C := RX2) (T := TX2) (N := 12) hx hb hw inB_X2 hown hE.K hP 0 rfl rfl 0 (by decide) (hw _ bw1163) (fun _ h9 => h9) rfl dX2_hand_51 ?_
    refine lv_if_le (tgt := 59) hx hb dX2_hand_54 (by decide) (fun c_x => absurd c_x (by decide)) (fun _ => ?_)
    refine lv_iconst (v := (0 : Int32)) hx hb dX2_hand_57 (by decide) ?_
    exact we_i (wf := wM G b) hx hb hr hk hP hD hS (Nat.le_of_ble_eq_true rfl) (Nat.le_of_ble_eq_true rfl) dX2_hand_58 (if_pos c_1)
  · refine lv_iconst (v := (0 : Int32)) hx hb dX2_hand_11 (by decide) ?_
    refine lv_bipush (v := (59 : Int32)) hx hb dX2_hand_12 (by decide) ?_
    refine lv_iload_n hx hb dX2_hand_14 rfl (lv_at hl 2 rfl) ?_
    refine rcSi (as := [.int (0 : Int32), .int (59 : Int32), .int p1]) (rest := [.ref (b 0)]) C (c_X2_isFrom l G (0 : Int32) (59 : Int32) p1) F_X2_isFrom rfl bw1208 bw1209 (hE.S hS hAB) vpn hl.1 dX2_hand_15 ⟨Nat.le_of_ble_eq_true rfl, Nat.le_of_ble_eq_true rfl⟩ rfl (Nat.le_of_ble_eq_true rfl) ⟨Nat.le_of_ble_eq_true rfl, Nat.le_of_ble_eq_true rfl⟩ ?_
    refine lv_if_eq (tgt := 46) hx hb dX2_hand_18 (by decide) (fun c_2 => ?_) (fun c_2 => ?_)
    · refine lv_iconst (v := (1 : Int32)) hx hb dX2_hand_46 (by decide) ?_
      refine va_put (D := gD G) (cl := vwCl) (tys := gT G) (ci := 4) (v := .int (1 : Int32)) (ty := .int) (C := RX2) (T := TX2) (N := 12) hx hb hw inB_X2 tyX2 tyX2_ok nmX2 hown hE.K hP hD hS 0 rfl rfl 0 (by decide) (hw _ bw1163) (fun _ h9 => h9) rfl (by decide +kernel) rfl rfl (Nat.le_of_ble_eq_true rfl) dX2_hand_47 (fun H locs hP hD hS => ?_)
      have hP : va_P (gD G) vwCl (wM G b ((1 : Int32), (my T), (mm T), (md T), (mt T), (T.2.2.2.2.2))) H := hP
      have hD : va_D A (wM G b ((1 : Int32), (my T), (mm T), (md T), (mt T), (T.2.2.2.2.2))) := hD
      refine lv_aload_n hx hb dX2_hand_50 rfl (lv_at hl 0 rfl) ?_
      refine va_get (D := gD G) (cl := vwCl) (tys := gT G) (ci := 4) (v := .int (1 : Int32)) (C := RX2) (T := TX2) (N := 12) hx hb hw inB_X2 hown hE.K hP 0 rfl rfl 0 (by decide) (hw _ bw1163) (fun _ h9 => h9) rfl dX2_hand_51 ?_
      refine lv_if_le (tgt := 59) hx hb dX2_hand_54 (by decide) (fun c_x => absurd c_x (by decide)) (fun _ => ?_)
      refine lv_iconst (v := (0 : Int32)) hx hb dX2_hand_57 (by decide) ?_
      exact we_i (wf := wM G b) hx hb hr hk hP hD hS (Nat.le_of_ble_eq_true rfl) (Nat.le_of_ble_eq_true rfl) dX2_hand_58 (Eq.trans (if_neg c_1) (if_pos c_2))
    · refine lv_iconst (v := (0 : Int32)) hx hb dX2_hand_21 (by decide) ?_
      refine lv_bipush (v := (59 : Int32)) hx hb dX2_hand_22 (by decide) ?_
      refine lv_iload_n hx hb dX2_hand_24 rfl (lv_at hl 3 rfl) ?_
      refine rcSi (as := [.int (0 : Int32), .int (59 : Int32), .int p2]) (rest := [.ref (b 0)]) C (c_X2_isFrom l G (0 : Int32) (59 : Int32) p2) F_X2_isFrom rfl bw1208 bw1209 (hE.S hS hAB) vpn hl.1 dX2_hand_25 ⟨Nat.le_of_ble_eq_true rfl, Nat.le_of_ble_eq_true rfl⟩ rfl (Nat.le_of_ble_eq_true rfl) ⟨Nat.le_of_ble_eq_true rfl, Nat.le_of_ble_eq_true rfl⟩ ?_
      refine lv_if_eq (tgt := 46) hx hb dX2_hand_28 (by decide) (fun c_3 => ?_) (fun c_3 => ?_)
      · refine lv_iconst (v := (1 : Int32)) hx hb dX2_hand_46 (by decide) ?_
        refine va_put (D := gD G) (cl := vwCl) (tys := gT G) (ci := 4) (v := .int (1 : Int32)) (ty := .int) (C := RX2) (T := TX2) (N := 12) hx hb hw inB_X2 tyX2 tyX2_ok nmX2 hown hE.K hP hD hS 0 rfl rfl 0 (by decide) (hw _ bw1163) (fun _ h9 => h9) rfl (by decide +kernel) rfl rfl (Nat.le_of_ble_eq_true rfl) dX2_hand_47 (fun H locs hP hD hS => ?_)
        have hP : va_P (gD G) vwCl (wM G b ((1 : Int32), (my T), (mm T), (md T), (mt T), (T.2.2.2.2.2))) H := hP
        have hD : va_D A (wM G b ((1 : Int32), (my T), (mm T), (md T), (mt T), (T.2.2.2.2.2))) := hD
        refine lv_aload_n hx hb dX2_hand_50 rfl (lv_at hl 0 rfl) ?_
        refine va_get (D := gD G) (cl := vwCl) (tys := gT G) (ci := 4) (v := .int (1 : Int32)) (C := RX2) (T := TX2) (N := 12) hx hb hw inB_X2 hown hE.K hP 0 rfl rfl 0 (by decide) (hw _ bw1163) (fun _ h9 => h9) rfl dX2_hand_51 ?_
        refine lv_if_le (tgt := 59) hx hb dX2_hand_54 (by decide) (fun c_x => absurd c_x (by decide)) (fun _ => ?_)
        refine lv_iconst (v := (0 : Int32)) hx hb dX2_hand_57 (by decide) ?_
        exact we_i (wf := wM G b) hx hb hr hk hP hD hS (Nat.le_of_ble_eq_true rfl) (Nat.le_of_ble_eq_true rfl) dX2_hand_58 (Eq.trans (if_neg c_1) (Eq.trans (if_neg c_2) (if_pos c_3)))
      · refine lv_iconst (v := (0 : Int32)) hx hb dX2_hand_31 (by decide) ?_
        refine lv_ldc (v := (999999999 : Int32)) hx hb hown (hw _ bw1211) dX2_hand_32 ?_
        refine lv_iload hx hb dX2_hand_34 (lv_at hl 4 rfl) ?_
        refine rcSi (as := [.int (0 : Int32), .int (999999999 : Int32), .int p3]) (rest := [.ref (b 0)]) C (c_X2_isFrom l G (0 : Int32) (999999999 : Int32) p3) F_X2_isFrom rfl bw1208 bw1209 (hE.S hS hAB) vpn hl.1 dX2_hand_36 ⟨Nat.le_of_ble_eq_true rfl, Nat.le_of_ble_eq_true rfl⟩ rfl (Nat.le_of_ble_eq_true rfl) ⟨Nat.le_of_ble_eq_true rfl, Nat.le_of_ble_eq_true rfl⟩ ?_
        refine k_dia (b := (fX2_isFrom (0 : Int32) (999999999 : Int32) p3) = 0) (x := (1 : Int32)) (y := (0 : Int32)) (Wg := fun z9 => W _ _ _ _ _ _ _ _ _ _ _ _ _ _ _ (F0 m 47 ls (.int z9 :: _))) ?_ (fun t9 f9 => lv_if_eq (tgt := 46) hx hb dX2_hand_39 (by decide) (fun c_x => lv_iconst (v := (1 : Int32)) hx hb dX2_hand_46 (by decide) (t9 c_x)) (fun c_x => lv_iconst (v := (0 : Int32)) hx hb dX2_hand_42 (by decide) (lv_goto (tgt := 47) hx hb dX2_hand_43 (by decide) (f9 c_x))))
        refine va_put (D := gD G) (cl := vwCl) (tys := gT G) (ci := 4) (v := .int (if (fX2_isFrom (0 : Int32) (999999999 : Int32) p3) = 0 then (1 : Int32) else (0 : Int32))) (ty := .int) (C := RX2) (T := TX2) (N := 12) hx hb hw inB_X2 tyX2 tyX2_ok nmX2 hown hE.K hP hD hS 0 rfl rfl 0 (by decide) (hw _ bw1163) (fun _ h9 => h9) rfl (by decide +kernel) rfl rfl (Nat.le_of_ble_eq_true rfl) dX2_hand_47 (fun H locs hP hD hS => ?_)
        have hP : va_P (gD G) vwCl (wM G b ((if (fX2_isFrom (0 : Int32) (999999999 : Int32) p3) = 0 then (1 : Int32) else (0 : Int32)), (my T), (mm T), (md T), (mt T), (T.2.2.2.2.2))) H := hP
        have hD : va_D A (wM G b ((if (fX2_isFrom (0 : Int32) (999999999 : Int32) p3) = 0 then (1 : Int32) else (0 : Int32)), (my T), (mm T), (md T), (mt T), (T.2.2.2.2.2))) := hD
        refine lv_aload_n hx hb dX2_hand_50 rfl (lv_at hl 0 rfl) ?_
        refine va_get (D := gD G) (cl := vwCl) (tys := gT G) (ci := 4) (v := .int (if (fX2_isFrom (0 : Int32) (999999999 : Int32) p3) = 0 then (1 : Int32) else (0 : Int32))) (C := RX2) (T := TX2) (N := 12) hx hb hw inB_X2 hown hE.K hP 0 rfl rfl 0 (by decide) (hw _ bw1163) (fun _ h9 => h9) rfl dX2_hand_51 ?_
        refine lv_if_le (tgt := 59) hx hb dX2_hand_54 (by decide) (fun c_4 => ?_) (fun c_4 => ?_)
        · refine lv_aload_n hx hb dX2_hand_59 rfl (lv_at hl 0 rfl) ?_
          refine va_get (D := gD G) (cl := vwCl) (tys := gT G) (ci := 4) (v := .int (mi T 0)) (C := RX2) (T := TX2) (N := 12) hx hb hw inB_X2 hown hE.K hP 0 rfl rfl 5 (by decide) (hw _ bw1168) (fun _ h9 => h9) rfl dX2_hand_60 ?_
          refine lv_istore (lv' := [(5, .int (mi T 0)), (0, .ref (b 0)), (1, .int p0), (2, .int p1), (3, .int p2), (4, .int p3)]) hx hb dX2_hand_63 hl (Nat.le_of_ble_eq_true rfl) rfl (fun ls hl => ?_)
          refine lv_aload_n hx hb dX2_hand_65 rfl (lv_at hl 1 rfl) ?_
          refine lv_iload_n hx hb dX2_hand_66 rfl (lv_at hl 2 rfl) ?_
          refine va_put (D := gD G) (cl := vwCl) (tys := gT G) (ci := 4) (v := .int p0) (ty := .int) (C := RX2) (T := TX2) (N := 12) hx hb hw inB_X2 tyX2 tyX2_ok nmX2 hown hE.K hP hD hS 0 rfl rfl 5 (by decide) (hw _ bw1168) (fun _ h9 => h9) rfl (by decide +kernel) rfl rfl (Nat.le_of_ble_eq_true rfl) dX2_hand_67 (fun H locs hP hD hS => ?_)
          have hP : va_P (gD G) vwCl (wM G b ((if (fX2_isFrom (0 : Int32) (999999999 : Int32) p3) = 0 then (1 : Int32) else (0 : Int32)), (my T), (mm T), (md T), (mt T), (upd (T.2.2.2.2.2) 0 p0))) H := hP
          have hD : va_D A (wM G b ((if (fX2_isFrom (0 : Int32) (999999999 : Int32) p3) = 0 then (1 : Int32) else (0 : Int32)), (my T), (mm T), (md T), (mt T), (upd (T.2.2.2.2.2) 0 p0))) := hD
          refine lv_aload_n hx hb dX2_hand_70 rfl (lv_at hl 1 rfl) ?_
          refine lv_iload_n hx hb dX2_hand_71 rfl (lv_at hl 3 rfl) ?_
          refine va_put (D := gD G) (cl := vwCl) (tys := gT G) (ci := 4) (v := .int p1) (ty := .int) (C := RX2) (T := TX2) (N := 12) hx hb hw inB_X2 tyX2 tyX2_ok nmX2 hown hE.K hP hD hS 0 rfl rfl 6 (by decide) (hw _ bw1169) (fun _ h9 => h9) rfl (by decide +kernel) rfl rfl (Nat.le_of_ble_eq_true rfl) dX2_hand_72 (fun H locs hP hD hS => ?_)
          have hP : va_P (gD G) vwCl (wM G b ((if (fX2_isFrom (0 : Int32) (999999999 : Int32) p3) = 0 then (1 : Int32) else (0 : Int32)), (my T), (mm T), (md T), (mt T), (upd (upd (T.2.2.2.2.2) 0 p0) 1 p1))) H := hP
          have hD : va_D A (wM G b ((if (fX2_isFrom (0 : Int32) (999999999 : Int32) p3) = 0 then (1 : Int32) else (0 : Int32)), (my T), (mm T), (md T), (mt T), (upd (upd (T.2.2.2.2.2) 0 p0) 1 p1))) := hD
          refine lv_aload_n hx hb dX2_hand_75 rfl (lv_at hl 1 rfl) ?_
          refine lv_iload_n hx hb dX2_hand_76 rfl (lv_at hl 4 rfl) ?_
          refine va_put (D := gD G) (cl := vwCl) (tys := gT G) (ci := 4) (v := .int p2) (ty := .int) (C := RX2) (T := TX2) (N := 12) hx hb hw inB_X2 tyX2 tyX2_ok nmX2 hown hE.K hP hD hS 0 rfl rfl 7 (by decide) (hw _ bw1170) (fun _ h9 => h9) rfl (by decide +kernel) rfl rfl (Nat.le_of_ble_eq_true rfl) dX2_hand_77 (fun H locs hP hD hS => ?_)
          have hP : va_P (gD G) vwCl (wM G b ((if (fX2_isFrom (0 : Int32) (999999999 : Int32) p3) = 0 then (1 : Int32) else (0 : Int32)), (my T), (mm T), (md T), (mt T), (upd (upd (upd (T.2.2.2.2.2) 0 p0) 1 p1) 2 p2))) H := hP
          have hD : va_D A (wM G b ((if (fX2_isFrom (0 : Int32) (999999999 : Int32) p3) = 0 then (1 : Int32) else (0 : Int32)), (my T), (mm T), (md T), (mt T), (upd (upd (upd (T.2.2.2.2.2) 0 p0) 1 p1) 2 p2))) := hD
          refine lv_aload_n hx hb dX2_hand_80 rfl (lv_at hl 1 rfl) ?_
          refine lv_iload hx hb dX2_hand_81 (lv_at hl 5 rfl) ?_
          refine va_put (D := gD G) (cl := vwCl) (tys := gT G) (ci := 4) (v := .int p3) (ty := .int) (C := RX2) (T := TX2) (N := 12) hx hb hw inB_X2 tyX2 tyX2_ok nmX2 hown hE.K hP hD hS 0 rfl rfl 8 (by decide) (hw _ bw1171) (fun _ h9 => h9) rfl (by decide +kernel) rfl rfl (Nat.le_of_ble_eq_true rfl) dX2_hand_83 (fun H locs hP hD hS => ?_)
          have hP : va_P (gD G) vwCl (wM G b ((if (fX2_isFrom (0 : Int32) (999999999 : Int32) p3) = 0 then (1 : Int32) else (0 : Int32)), (my T), (mm T), (md T), (mt T), (upd (upd (upd (upd (T.2.2.2.2.2) 0 p0) 1 p1) 2 p2) 3 p3))) H := hP
          have hD : va_D A (wM G b ((if (fX2_isFrom (0 : Int32) (999999999 : Int32) p3) = 0 then (1 : Int32) else (0 : Int32)), (my T), (mm T), (md T), (mt T), (upd (upd (upd (upd (T.2.2.2.2.2) 0 p0) 1 p1) 2 p2) 3 p3))) := hD
          refine lv_iload hx hb dX2_hand_86 (lv_at hl 0 rfl) ?_
          exact we_i (wf := wM G b) hx hb hr hk hP hD hS (Nat.le_of_ble_eq_true rfl) (Nat.le_of_ble_eq_true rfl) dX2_hand_88 (Eq.trans (if_neg c_1) (Eq.trans (if_neg c_2) (Eq.trans (if_neg c_3) (if_pos c_4))))
        · refine lv_iconst (v := (0 : Int32)) hx hb dX2_hand_57 (by decide) ?_
          exact we_i (wf := wM G b) hx hb hr hk hP hD hS (Nat.le_of_ble_eq_true rfl) (Nat.le_of_ble_eq_true rfl) dX2_hand_58 (Eq.trans (if_neg c_1) (Eq.trans (if_neg c_2) (Eq.trans (if_neg c_3) (if_neg c_4))))

