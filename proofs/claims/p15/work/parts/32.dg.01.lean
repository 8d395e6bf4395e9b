set_option maxRecDepth 100000 in
set_option maxHeartbeats 4000000 in
theorem dg_mom {p : Program} {l : Launch} {e : Env} {s : State} {m : MethodId} {args : Array Value} {below : List Frame} {meth : Method} {c : Code} {Q : State → Prop} {G : GT} {A : Nat → Prop} {cells slots : Nat} {b : Nat → Nat} {T : SM} (C : CallFix p m c cX2_digest 10 s args BW RX2) (hE : EV G s s.heap) (hA : ∀ q : Nat, s.heap.size ≤ q → A q) (hAB : ∀ q : Nat, A q → gB G ≤ q) {d : Int64} {k : Int32} (hk6 : vp_in k 6) (hT : MO T) (hcs : cells + 1 ≤ (rmK 10 120 4000).cells ∧ slots + 10 ≤ (rmK 10 120 4000).slots) (H : Heap) (locs : List Loc) (hP : va_P (gD G) vwCl (wM G b T) H) (hD : va_D A (wM G b T)) (hS : va_S A s.heap H locs) (ls : Array Slot) (hl : lv_has ls 10 [(3, .int k), (1, .long d), (0, .ref (b 0))]) (kk : ∀ (H : Heap) (locs : List Loc), va_P (gD G) vwCl (wM G b T) H → va_D A (wM G b T) → va_S A s.heap H locs → ∀ ls : Array Slot, lv_has ls 10 [(3, .int k), (1, .long (fX2_mom T d k)), (0, .ref (b 0))] → W p l e (rmK 10 120 4000) s m args below meth c H locs (cells + 1) (slots + 10) Q (F0 m 184 ls [])) : W p l e (rmK 10 120 4000) s m args below meth c H locs (cells) (slots) Q (F0 m 17 ls []) := by
  have hx := C.1
  have hb := C.2.1
  have hml := C.2.2.1
  have hown := C.2.2.2.1
  have hw := C.2.2.2.2
  refine lv_bipush (v := (10 : Int32)) hx hb dX2_digest_17 qb_10 ?_
  refine nwL (N' := 10) hx hb (hw _ bw132) hE.K hP hD hS hA (by decide) (by decide) (by decide) hcs.1 hcs.2 dX2_digest_19 (fun q19 H hP hD hS => ?_)
  have hP : va_P (gD G) vwCl ((wM G b T) ++ [(q19, .inl (gC G 1, 10, .inr (.inl (fun _ => 0))))]) H := hP
  have hD : va_D A ((wM G b T) ++ [(q19, .inl (gC G 1, 10, .inr (.inl (fun _ => 0))))]) := hD
  refine lv_dup hx hb dX2_digest_21 rfl ?_
  refine lv_iconst (v := (0 : Int32)) hx hb dX2_digest_22 qi_0 ?_
  refine lv_aload_n hx hb dX2_digest_23 rfl (lv_at hl 2 rfl) ?_
  refine va_get (D := gD G) (cl := vwCl) (tys := gT G) (ci := 4) (v := .ref (b 1)) (C := RX2) (T := TX2) (N := 12) hx hb hw inB_X2 hown hE.K hP 0 rfl rfl 1 (by decide) (hw _ bw1164) (fun _ h9 => h9) rfl dX2_digest_24 ?_
  refine lv_iload_n hx hb dX2_digest_27 rfl (lv_at hl 0 rfl) ?_
  refine va_iald (tys := gT G) hx hb hE.K hP 1 0 rfl rfl hk6 dX2_digest_28 ?_
  refine lv_i2l (v := ((my T k.toNatClampNeg).toInt64)) hx hb dX2_digest_29 (by first | rfl | decide) ?_
  refine va_last (tys := gT G) hx hb hE.K hP hD hS 5 1 rfl rfl (vp_in_lit 0) dX2_digest_30 (fun H locs hP hD hS => ?_)
  have hP : va_P (gD G) vwCl ((wM G b T) ++ [(q19, .inl (gC G 1, 10, .inr (.inl (vp_updL (fun _ => 0) (0 : Int32).toNatClampNeg ((my T k.toNatClampNeg).toInt64)))))]) H := hP
  have hD : va_D A ((wM G b T) ++ [(q19, .inl (gC G 1, 10, .inr (.inl (vp_updL (fun _ => 0) (0 : Int32).toNatClampNeg ((my T k.toNatClampNeg).toInt64)))))]) := hD
  refine lv_dup hx hb dX2_digest_31 rfl ?_
  refine lv_iconst (v := (1 : Int32)) hx hb dX2_digest_32 qi_1 ?_
  refine lv_aload_n hx hb dX2_digest_33 rfl (lv_at hl 2 rfl) ?_
  refine va_get (D := gD G) (cl := vwCl) (tys := gT G) (ci := 4) (v := .ref (b 2)) (C := RX2) (T := TX2) (N := 12) hx hb hw inB_X2 hown hE.K hP 0 rfl rfl 2 (by decide) (hw _ bw1165) (fun _ h9 => h9) rfl dX2_digest_34 ?_
  refine lv_iload_n hx hb dX2_digest_37 rfl (lv_at hl 0 rfl) ?_
  refine va_iald (tys := gT G) hx hb hE.K hP 2 0 rfl rfl hk6 dX2_digest_38 ?_
  refine lv_i2l (v := ((mm T k.toNatClampNeg).toInt64)) hx hb dX2_digest_39 (by first | rfl | decide) ?_
  refine va_last (tys := gT G) hx hb hE.K hP hD hS 5 1 rfl rfl (vp_in_lit 1) dX2_digest_40 (fun H locs hP hD hS => ?_)
  have hP : va_P (gD G) vwCl ((wM G b T) ++ [(q19, .inl (gC G 1, 10, .inr (.inl (vp_updL (vp_updL (fun _ => 0) (0 : Int32).toNatClampNeg ((my T k.toNatClampNeg).toInt64)) (1 : Int32).toNatClampNeg ((mm T k.toNatClampNeg).toInt64)))))]) H := hP
  have hD : va_D A ((wM G b T) ++ [(q19, .inl (gC G 1, 10, .inr (.inl (vp_updL (vp_updL (fun _ => 0) (0 : Int32).toNatClampNeg ((my T k.toNatClampNeg).toInt64)) (1 : Int32).toNatClampNeg ((mm T k.toNatClampNeg).toInt64)))))]) := hD
  refine lv_dup hx hb dX2_digest_41 rfl ?_
  refine lv_iconst (v := (2 : Int32)) hx hb dX2_digest_42 qi_2 ?_
  refine lv_aload_n hx hb dX2_digest_43 rfl (lv_at hl 2 rfl) ?_
  refine va_get (D := gD G) (cl := vwCl) (tys := gT G) (ci := 4) (v := .ref (b 3)) (C := RX2) (T := TX2) (N := 12) hx hb hw inB_X2 hown hE.K hP 0 rfl rfl 3 (by decide) (hw _ bw1166) (fun _ h9 => h9) rfl dX2_digest_44 ?_
  refine lv_iload_n hx hb dX2_digest_47 rfl (lv_at hl 0 rfl) ?_
  refine va_iald (tys := gT G) hx hb hE.K hP 3 0 rfl rfl hk6 dX2_digest_48 ?_
  refine lv_i2l (v := ((md T k.toNatClampNeg).toInt64)) hx hb dX2_digest_49 (by first | rfl | decide) ?_
  refine va_last (tys := gT G) hx hb hE.K hP hD hS 5 1 rfl rfl (vp_in_lit 2) dX2_digest_50 (fun H locs hP hD hS => ?_)
  have hP : va_P (gD G) vwCl ((wM G b T) ++ [(q19, .inl (gC G 1, 10, .inr (.inl (vp_updL (vp_updL (vp_updL (fun _ => 0) (0 : Int32).toNatClampNeg ((my T k.toNatClampNeg).toInt64)) (1 : Int32).toNatClampNeg ((mm T k.toNatClampNeg).toInt64)) (2 : Int32).toNatClampNeg ((md T k.toNatClampNeg).toInt64)))))]) H := hP
  have hD : va_D A ((wM G b T) ++ [(q19, .inl (gC G 1, 10, .inr (.inl (vp_updL (vp_updL (vp_updL (fun _ => 0) (0 : Int32).toNatClampNeg ((my T k.toNatClampNeg).toInt64)) (1 : Int32).toNatClampNeg ((mm T k.toNatClampNeg).toInt64)) (2 : Int32).toNatClampNeg ((md T k.toNatClampNeg).toInt64)))))]) := hD
  refine lv_dup hx hb dX2_digest_51 rfl ?_
  refine lv_iconst (v := (3 : Int32)) hx hb dX2_digest_52 qi_3 ?_
  refine lv_aload_n hx hb dX2_digest_53 rfl (lv_at hl 2 rfl) ?_
  refine lv_iload_n hx hb dX2_digest_54 rfl (lv_at hl 0 rfl) ?_
  refine rcVf (st1 := [.int (fX2_inYearNow T k), .int (3 : Int32), .ref q19, .ref q19]) (as := [.int k]) (rest := [.int (3 : Int32), .ref q19, .ref q19]) (cl := RX2) C (c_X2_inYearNow l G b T k hk6 hT) F_X2_inYearNow rfl bw1464 bw1466 (hw _ bw44) (hE.S hS hAB) (show va_P (gD G) vwCl (wM G b T) _ from hP.sub [0, 1, 2, 3, 4] rfl) (rv4 hE.K hP (q0 := 0) rfl) hl.1 dX2_digest_55 ⟨Nat.le_of_ble_eq_true rfl, Nat.le_of_ble_eq_true rfl⟩ rfl (Nat.le_of_ble_eq_true rfl) hcs rfl ?_
  refine lv_i2l (v := ((fX2_inYearNow T k).toInt64)) hx hb dX2_digest_58 (by first | rfl | decide) ?_
  refine va_last (tys := gT G) hx hb hE.K hP hD hS 5 1 rfl rfl (vp_in_lit 3) dX2_digest_59 (fun H locs hP hD hS => ?_)
  have hP : va_P (gD G) vwCl ((wM G b T) ++ [(q19, .inl (gC G 1, 10, .inr (.inl (vp_updL (vp_updL (vp_updL (vp_updL (fun _ => 0) (0 : Int32).toNatClampNeg ((my T k.toNatClampNeg).toInt64)) (1 : Int32).toNatClampNeg ((mm T k.toNatClampNeg).toInt64)) (2 : Int32).toNatClampNeg ((md T k.toNatClampNeg).toInt64)) (3 : Int32).toNatClampNeg ((fX2_inYearNow T k).toInt64)))))]) H := hP
  have hD : va_D A ((wM G b T) ++ [(q19, .inl (gC G 1, 10, .inr (.inl (vp_updL (vp_updL (vp_updL (vp_updL (fun _ => 0) (0 : Int32).toNatClampNeg ((my T k.toNatClampNeg).toInt64)) (1 : Int32).toNatClampNeg ((mm T k.toNatClampNeg).toInt64)) (2 : Int32).toNatClampNeg ((md T k.toNatClampNeg).toInt64)) (3 : Int32).toNatClampNeg ((fX2_inYearNow T k).toInt64)))))]) := hD
  refine lv_dup hx hb dX2_digest_60 rfl ?_
  refine lv_iconst (v := (4 : Int32)) hx hb dX2_digest_61 qi_4 ?_
  refine lv_aload_n hx hb dX2_digest_62 rfl (lv_at hl 2 rfl) ?_
  refine lv_iload_n hx hb dX2_digest_63 rfl (lv_at hl 0 rfl) ?_
  refine rcVf (st1 := [.int (fX2_weekDayNow T k), .int (4 : Int32), .ref q19, .ref q19]) (as := [.int k]) (rest := [.int (4 : Int32), .ref q19, .ref q19]) (cl := RX2) C (c_X2_weekDayNow l G b T k hk6 hT) F_X2_weekDayNow rfl bw1243 bw1245 (hw _ bw37) (hE.S hS hAB) (show va_P (gD G) vwCl (wM G b T) _ from hP.sub [0, 1, 2, 3, 4] rfl) (rv4 hE.K hP (q0 := 0) rfl) hl.1 dX2_digest_64 ⟨Nat.le_of_ble_eq_true rfl, Nat.le_of_ble_eq_true rfl⟩ rfl (Nat.le_of_ble_eq_true rfl) hcs rfl ?_
  refine lv_i2l (v := ((fX2_weekDayNow T k).toInt64)) hx hb dX2_digest_67 (by first | rfl | decide) ?_
  refine va_last (tys := gT G) hx hb hE.K hP hD hS 5 1 rfl rfl (vp_in_lit 4) dX2_digest_68 (fun H locs hP hD hS => ?_)
  have hP : va_P (gD G) vwCl ((wM G b T) ++ [(q19, .inl (gC G 1, 10, .inr (.inl (vp_updL (vp_updL (vp_updL (vp_updL (vp_updL (fun _ => 0) (0 : Int32).toNatClampNeg ((my T k.toNatClampNeg).toInt64)) (1 : Int32).toNatClampNeg ((mm T k.toNatClampNeg).toInt64)) (2 : Int32).toNatClampNeg ((md T k.toNatClampNeg).toInt64)) (3 : Int32).toNatClampNeg ((fX2_inYearNow T k).toInt64)) (4 : Int32).toNatClampNeg ((fX2_weekDayNow T k).toInt64)))))]) H := hP
  have hD : va_D A ((wM G b T) ++ [(q19, .inl (gC G 1, 10, .inr (.inl (vp_updL (vp_updL (vp_updL (vp_updL (vp_updL (fun _ => 0) (0 : Int32).toNatClampNeg ((my T k.toNatClampNeg).toInt64)) (1 : Int32).toNatClampNeg ((mm T k.toNatClampNeg).toInt64)) (2 : Int32).toNatClampNeg ((md T k.toNatClampNeg).toInt64)) (3 : Int32).toNatClampNeg ((fX2_inYearNow T k).toInt64)) (4 : Int32).toNatClampNeg ((fX2_weekDayNow T k).toInt64)))))]) := hD
  refine lv_dup hx hb dX2_digest_69 rfl ?_
  refine lv_iconst (v := (5 : Int32)) hx hb dX2_digest_70 qi_5 ?_
  refine lv_aload_n hx hb dX2_digest_71 rfl (lv_at hl 2 rfl) ?_
  refine lv_iload_n hx hb dX2_digest_72 rfl (lv_at hl 0 rfl) ?_
  refine lv_iconst (v := (5 : Int32)) hx hb dX2_digest_73 qi_5 ?_
  refine rcSf (st1 := [.long (fX2_nanosOf (5 : Int32)), .int k, .ref (b 0), .int (5 : Int32), .ref q19, .ref q19]) (as := [.int (5 : Int32)]) (rest := [.int k, .ref (b 0), .int (5 : Int32), .ref q19, .ref q19]) C (c_X2_nanosOf l G (5 : Int32)) F_X2_nanosOf rfl bw1354 bw1355 (hE.S hS hAB) vpn hl.1 dX2_digest_74 ⟨Nat.le_of_ble_eq_true rfl, Nat.le_of_ble_eq_true rfl⟩ rfl (Nat.le_of_ble_eq_true rfl) hcs rfl ?_
  refine lv_ldc2 (v := (24 : Int64)) hx hb hown (hw _ bw1332) dX2_digest_77 ?_
  refine rcVf (st1 := [.int (fX2_part T k (fX2_nanosOf (5 : Int32)) (24 : Int64)), .int (5 : Int32), .ref q19, .ref q19]) (as := [.int k, .long (fX2_nanosOf (5 : Int32)), .long (24 : Int64)]) (rest := [.int (5 : Int32), .ref q19, .ref q19]) (cl := RX2) C (c_X2_part l G b T k (fX2_nanosOf (5 : Int32)) (24 : Int64) hk6 (nz_nanosOf (5 : Int32)) (by decide)) F_X2_part rfl bw1476 bw1478 (hw _ bw45) (hE.S hS hAB) (show va_P (gD G) vwCl (wM G b T) _ from hP.sub [0, 1, 2, 3, 4] rfl) (rv4 hE.K hP (q0 := 0) rfl) hl.1 dX2_digest_80 ⟨Nat.le_of_ble_eq_true rfl, Nat.le_of_ble_eq_true rfl⟩ rfl (Nat.le_of_ble_eq_true rfl) hcs rfl ?_
  refine lv_i2l (v := ((fX2_part T k (fX2_nanosOf (5 : Int32)) (24 : Int64)).toInt64)) hx hb dX2_digest_83 (by first | rfl | decide) ?_
  refine va_last (tys := gT G) hx hb hE.K hP hD hS 5 1 rfl rfl (vp_in_lit 5) dX2_digest_84 (fun H locs hP hD hS => ?_)
  have hP : va_P (gD G) vwCl ((wM G b T) ++ [(q19, .inl (gC G 1, 10, .inr (.inl (vp_updL (vp_updL (vp_updL (vp_updL (vp_updL (vp_updL (fun _ => 0) (0 : Int32).toNatClampNeg ((my T k.toNatClampNeg).toInt64)) (1 : Int32).toNatClampNeg ((mm T k.toNatClampNeg).toInt64)) (2 : Int32).toNatClampNeg ((md T k.toNatClampNeg).toInt64)) (3 : Int32).toNatClampNeg ((fX2_inYearNow T k).toInt64)) (4 : Int32).toNatClampNeg ((fX2_weekDayNow T k).toInt64)) (5 : Int32).toNatClampNeg ((fX2_part T k (fX2_nanosOf (5 : Int32)) (24 : Int64)).toInt64)))))]) H := hP
  have hD : va_D A ((wM G b T) ++ [(q19, .inl (gC G 1, 10, .inr (.inl (vp_updL (vp_updL (vp_updL (vp_updL (vp_updL (vp_updL (fun _ => 0) (0 : Int32).toNatClampNeg ((my T k.toNatClampNeg).toInt64)) (1 : Int32).toNatClampNeg ((mm T k.toNatClampNeg).toInt64)) (2 : Int32).toNatClampNeg ((md T k.toNatClampNeg).toInt64)) (3 : Int32).toNatClampNeg ((fX2_inYearNow T k).toInt64)) (4 : Int32).toNatClampNeg ((fX2_weekDayNow T k).toInt64)) (5 : Int32).toNatClampNeg ((fX2_part T k (fX2_nanosOf (5 : Int32)) (24 : Int64)).toInt64)))))]) := hD
  refine lv_dup hx hb dX2_digest_85 rfl ?_
  refine lv_bipush (v := (6 : Int32)) hx hb dX2_digest_86 qb_6 ?_
  refine lv_aload_n hx hb dX2_digest_88 rfl (lv_at hl 2 rfl) ?_
  refine lv_iload_n hx hb dX2_digest_89 rfl (lv_at hl 0 rfl) ?_
  refine lv_iconst (v := (4 : Int32)) hx hb dX2_digest_90 qi_4 ?_
  refine rcSf (st1 := [.long (fX2_nanosOf (4 : Int32)), .int k, .ref (b 0), .int (6 : Int32), .ref q19, .ref q19]) (as := [.int (4 : Int32)]) (rest := [.int k, .ref (b 0), .int (6 : Int32), .ref q19, .ref q19]) C (c_X2_nanosOf l G (4 : Int32)) F_X2_nanosOf rfl bw1354 bw1355 (hE.S hS hAB) vpn hl.1 dX2_digest_91 ⟨Nat.le_of_ble_eq_true rfl, Nat.le_of_ble_eq_true rfl⟩ rfl (Nat.le_of_ble_eq_true rfl) hcs rfl ?_
  refine lv_ldc2 (v := (60 : Int64)) hx hb hown (hw _ bw1237) dX2_digest_94 ?_
  refine rcVf (st1 := [.int (fX2_part T k (fX2_nanosOf (4 : Int32)) (60 : Int64)), .int (6 : Int32), .ref q19, .ref q19]) (as := [.int k, .long (fX2_nanosOf (4 : Int32)), .long (60 : Int64)]) (rest := [.int (6 : Int32), .ref q19, .ref q19]) (cl := RX2) C (c_X2_part l G b T k (fX2_nanosOf (4 : Int32)) (60 : Int64) hk6 (nz_nanosOf (4 : Int32)) (by decide)) F_X2_part rfl bw1476 bw1478 (hw _ bw45) (hE.S hS hAB) (show va_P (gD G) vwCl (wM G b T) _ from hP.sub [0, 1, 2, 3, 4] rfl) (rv4 hE.K hP (q0 := 0) rfl) hl.1 dX2_digest_97 ⟨Nat.le_of_ble_eq_true rfl, Nat.le_of_ble_eq_true rfl⟩ rfl (Nat.le_of_ble_eq_true rfl) hcs rfl ?_
  refine lv_i2l (v := ((fX2_part T k (fX2_nanosOf (4 : Int32)) (60 : Int64)).toInt64)) hx hb dX2_digest_100 (by first | rfl | decide) ?_
  refine va_last (tys := gT G) hx hb hE.K hP hD hS 5 1 rfl rfl (vp_in_lit 6) dX2_digest_101 (fun H locs hP hD hS => ?_)
  have hP : va_P (gD G) vwCl ((wM G b T) ++ [(q19, .inl (gC G 1, 10, .inr (.inl (vp_updL (vp_updL (vp_updL (vp_updL (vp_updL (vp_updL (vp_updL (fun _ => 0) (0 : Int32).toNatClampNeg ((my T k.toNatClampNeg).toInt64)) (1 : Int32).toNatClampNeg ((mm T k.toNatClampNeg).toInt64)) (2 : Int32).toNatClampNeg ((md T k.toNatClampNeg).toInt64)) (3 : Int32).toNatClampNeg ((fX2_inYearNow T k).toInt64)) (4 : Int32).toNatClampNeg ((fX2_weekDayNow T k).toInt64)) (5 : Int32).toNatClampNeg ((fX2_part T k (fX2_nanosOf (5 : Int32)) (24 : Int64)).toInt64)) (6 : Int32).toNatClampNeg ((fX2_part T k (fX2_nanosOf (4 : Int32)) (60 : Int64)).toInt64)))))]) H := hP
  have hD : va_D A ((wM G b T) ++ [(q19, .inl (gC G 1, 10, .inr (.inl (vp_updL (vp_updL (vp_updL (vp_updL (vp_updL (vp_updL (vp_updL (fun _ => 0) (0 : Int32).toNatClampNeg ((my T k.toNatClampNeg).toInt64)) (1 : Int32).toNatClampNeg ((mm T k.toNatClampNeg).toInt64)) (2 : Int32).toNatClampNeg ((md T k.toNatClampNeg).toInt64)) (3 : Int32).toNatClampNeg ((fX2_inYearNow T k).toInt64)) (4 : Int32).toNatClampNeg ((fX2_weekDayNow T k).toInt64)) (5 : Int32).toNatClampNeg ((fX2_part T k (fX2_nanosOf (5 : Int32)) (24 : Int64)).toInt64)) (6 : Int32).toNatClampNeg ((fX2_part T k (fX2_nanosOf (4 : Int32)) (60 : Int64)).toInt64)))))]) := hD
  refine lv_dup hx hb dX2_digest_102 rfl ?_
  refine lv_bipush (v := (7 : Int32)) hx hb dX2_digest_103 qb_7 ?_
  refine lv_aload_n hx hb dX2_digest_105 rfl (lv_at hl 2 rfl) ?_
  refine lv_iload_n hx hb dX2_digest_106 rfl (lv_at hl 0 rfl) ?_
  refine lv_ldc2 (v := (1000000000 : Int64)) hx hb hown (hw _ bw1238) dX2_digest_107 ?_
  refine lv_ldc2 (v := (60 : Int64)) hx hb hown (hw _ bw1237) dX2_digest_110 ?_
  refine rcVf (st1 := [.int (fX2_part T k (1000000000 : Int64) (60 : Int64)), .int (7 : Int32), .ref q19, .ref q19]) (as := [.int k, .long (1000000000 : Int64), .long (60 : Int64)]) (rest := [.int (7 : Int32), .ref q19, .ref q19]) (cl := RX2) C (c_X2_part l G b T k (1000000000 : Int64) (60 : Int64) hk6 (by decide) (by decide)) F_X2_part rfl bw1476 bw1478 (hw _ bw45) (hE.S hS hAB) (show va_P (gD G) vwCl (wM G b T) _ from hP.sub [0, 1, 2, 3, 4] rfl) (rv4 hE.K hP (q0 := 0) rfl) hl.1 dX2_digest_113 ⟨Nat.le_of_ble_eq_true rfl, Nat.le_of_ble_eq_true rfl⟩ rfl (Nat.le_of_ble_eq_true rfl) hcs rfl ?_
  refine lv_i2l (v := ((fX2_part T k (1000000000 : Int64) (60 : Int64)).toInt64)) hx hb dX2_digest_116 (by first | rfl | decide) ?_
  refine va_last (tys := gT G) hx hb hE.K hP hD hS 5 1 rfl rfl (vp_in_lit 7) dX2_digest_117 (fun H locs hP hD hS => ?_)
  have hP : va_P (gD G) vwCl ((wM G b T) ++ [(q19, .inl (gC G 1, 10, .inr (.inl (vp_updL (vp_updL (vp_updL (vp_updL (vp_updL (vp_updL (vp_updL (vp_updL (fun _ => 0) (0 : Int32).toNatClampNeg ((my T k.toNatClampNeg).toInt64)) (1 : Int32).toNatClampNeg ((mm T k.toNatClampNeg).toInt64)) (2 : Int32).toNatClampNeg ((md T k.toNatClampNeg).toInt64)) (3 : Int32).toNatClampNeg ((fX2_inYearNow T k).toInt64)) (4 : Int32).toNatClampNeg ((fX2_weekDayNow T k).toInt64)) (5 : Int32).toNatClampNeg ((fX2_part T k (fX2_nanosOf (5 : Int32)) (24 : Int64)).toInt64)) (6 : Int32).toNatClampNeg ((fX2_part T k (fX2_nanosOf (4 : Int32)) (60 : Int64)).toInt64)) (7 : Int32).toNatClampNeg ((fX2_part T k (1000000000 : Int64) (60 : Int64)).toInt64)))))]) H := hP
  have hD : va_D A ((wM G b T) ++ [(q19, .inl (gC G 1, 10, .inr (.inl (vp_updL (vp_updL (vp_updL (vp_updL (vp_updL (vp_updL (vp_updL (vp_updL (fun _ => 0) (0 : Int32).toNatClampNeg ((my T k.toNatClampNeg).toInt64)) (1 : Int32).toNatClampNeg ((mm T k.toNatClampNeg).toInt64)) (2 : Int32).toNatClampNeg ((md T k.toNatClampNeg).toInt64)) (3 : Int32).toNatClampNeg ((fX2_inYearNow T k).toInt64)) (4 : Int32).toNatClampNeg ((fX2_weekDayNow T k).toInt64)) (5 : Int32).toNatClampNeg ((fX2_part T k (fX2_nanosOf (5 : Int32)) (24 : Int64)).toInt64)) (6 : Int32).toNatClampNeg ((fX2_part T k (fX2_nanosOf (4 : Int32)) (60 : Int64)).toInt64)) (7 : Int32).toNatClampNeg ((fX2_part T k (1000000000 : Int64) (60 : Int64)).toInt64)))))]) := hD
  refine lv_dup hx hb dX2_digest_118 rfl ?_
  refine lv_bipush (v := (8 : Int32)) hx hb dX2_digest_119 qb_8 ?_
  refine lv_aload_n hx hb dX2_digest_121 rfl (lv_at hl 2 rfl) ?_
  refine lv_iload_n hx hb dX2_digest_122 rfl (lv_at hl 0 rfl) ?_
  refine lv_lconst (v := (1 : Int64)) hx hb dX2_digest_123 ql_1 ?_
  refine lv_ldc2 (v := (1000000000 : Int64)) hx hb hown (hw _ bw1238) dX2_digest_124 ?_
  refine rcVf (st1 := [.int (fX2_part T k (1 : Int64) (1000000000 : Int64)), .int (8 : Int32), .ref q19, .ref q19]) (as := [.int k, .long (1 : Int64), .long (1000000000 : Int64)]) (rest := [.int (8 : Int32), .ref q19, .ref q19]) (cl := RX2) C (c_X2_part l G b T k (1 : Int64) (1000000000 : Int64) hk6 (by decide) (by decide)) F_X2_part rfl bw1476 bw1478 (hw _ bw45) (hE.S hS hAB) (show va_P (gD G) vwCl (wM G b T) _ from hP.sub [0, 1, 2, 3, 4] rfl) (rv4 hE.K hP (q0 := 0) rfl) hl.1 dX2_digest_127 ⟨Nat.le_of_ble_eq_true rfl, Nat.le_of_ble_eq_true rfl⟩ rfl (Nat.le_of_ble_eq_true rfl) hcs rfl ?_
  refine lv_i2l (v := ((fX2_part T k (1 : Int64) (1000000000 : Int64)).toInt64)) hx hb dX2_digest_130 (by first | rfl | decide) ?_
  refine va_last (tys := gT G) hx hb hE.K hP hD hS 5 1 rfl rfl (vp_in_lit 8) dX2_digest_131 (fun H locs hP hD hS => ?_)
  have hP : va_P (gD G) vwCl ((wM G b T) ++ [(q19, .inl (gC G 1, 10, .inr (.inl (vp_updL (vp_updL (vp_updL (vp_updL (vp_updL (vp_updL (vp_updL (vp_updL (vp_updL (fun _ => 0) (0 : Int32).toNatClampNeg ((my T k.toNatClampNeg).toInt64)) (1 : Int32).toNatClampNeg ((mm T k.toNatClampNeg).toInt64)) (2 : Int32).toNatClampNeg ((md T k.toNatClampNeg).toInt64)) (3 : Int32).toNatClampNeg ((fX2_inYearNow T k).toInt64)) (4 : Int32).toNatClampNeg ((fX2_weekDayNow T k).toInt64)) (5 : Int32).toNatClampNeg ((fX2_part T k (fX2_nanosOf (5 : Int32)) (24 : Int64)).toInt64)) (6 : Int32).toNatClampNeg ((fX2_part T k (fX2_nanosOf (4 : Int32)) (60 : Int64)).toInt64)) (7 : Int32).toNatClampNeg ((fX2_part T k (1000000000 : Int64) (60 : Int64)).toInt64)) (8 : Int32).toNatClampNeg ((fX2_part T k (1 : Int64) (1000000000 : Int64)).toInt64)))))]) H := hP
  have hD : va_D A ((wM G b T) ++ [(q19, .inl (gC G 1, 10, .inr (.inl (vp_updL (vp_updL (vp_updL (vp_updL (vp_updL (vp_updL (vp_updL (vp_updL (vp_updL (fun _ => 0) (0 : Int32).toNatClampNeg ((my T k.toNatClampNeg).toInt64)) (1 : Int32).toNatClampNeg ((mm T k.toNatClampNeg).toInt64)) (2 : Int32).toNatClampNeg ((md T k.toNatClampNeg).toInt64)) (3 : Int32).toNatClampNeg ((fX2_inYearNow T k).toInt64)) (4 : Int32).toNatClampNeg ((fX2_weekDayNow T k).toInt64)) (5 : Int32).toNatClampNeg ((fX2_part T k (fX2_nanosOf (5 : Int32)) (24 : Int64)).toInt64)) (6 : Int32).toNatClampNeg ((fX2_part T k (fX2_nanosOf (4 : Int32)) (60 : Int64)).toInt64)) (7 : Int32).toNatClampNeg ((fX2_part T k (1000000000 : Int64) (60 : Int64)).toInt64)) (8 : Int32).toNatClampNeg ((fX2_part T k (1 : Int64) (1000000000 : Int64)).toInt64)))))]) := hD
  refine lv_dup hx hb dX2_digest_132 rfl ?_
  refine lv_bipush (v := (9 : Int32)) hx hb dX2_digest_133 qb_9 ?_
  refine lv_aload_n hx hb dX2_digest_135 rfl (lv_at hl 2 rfl) ?_
  refine lv_iload_n hx hb dX2_digest_136 rfl (lv_at hl 0 rfl) ?_
  refine rcVf (st1 := [.long (fX2_dayNow T k), .int (9 : Int32), .ref q19, .ref q19]) (as := [.int k]) (rest := [.int (9 : Int32), .ref q19, .ref q19]) (cl := RX2) C (c_X2_dayNow l G b T k hk6 hT) F_X2_dayNow rfl bw1247 bw1249 (hw _ bw38) (hE.S hS hAB) (show va_P (gD G) vwCl (wM G b T) _ from hP.sub [0, 1, 2, 3, 4] rfl) (rv4 hE.K hP (q0 := 0) rfl) hl.1 dX2_digest_137 ⟨Nat.le_of_ble_eq_true rfl, Nat.le_of_ble_eq_true rfl⟩ rfl (Nat.le_of_ble_eq_true rfl) hcs rfl ?_
  refine va_last (tys := gT G) hx hb hE.K hP hD hS 5 1 rfl rfl (vp_in_lit 9) dX2_digest_140 (fun H locs hP hD hS => ?_)
  have hP : va_P (gD G) vwCl ((wM G b T) ++ [(q19, .inl (gC G 1, 10, .inr (.inl (vp_updL (vp_updL (vp_updL (vp_updL (vp_updL (vp_updL (vp_updL (vp_updL (vp_updL (vp_updL (fun _ => 0) (0 : Int32).toNatClampNeg ((my T k.toNatClampNeg).toInt64)) (1 : Int32).toNatClampNeg ((mm T k.toNatClampNeg).toInt64)) (2 : Int32).toNatClampNeg ((md T k.toNatClampNeg).toInt64)) (3 : Int32).toNatClampNeg ((fX2_inYearNow T k).toInt64)) (4 : Int32).toNatClampNeg ((fX2_weekDayNow T k).toInt64)) (5 : Int32).toNatClampNeg ((fX2_part T k (fX2_nanosOf (5 : Int32)) (24 : Int64)).toInt64)) (6 : Int32).toNatClampNeg ((fX2_part T k (fX2_nanosOf (4 : Int32)) (60 : Int64)).toInt64)) (7 : Int32).toNatClampNeg ((fX2_part T k (1000000000 : Int64) (60 : Int64)).toInt64)) (8 : Int32).toNatClampNeg ((fX2_part T k (1 : Int64) (1000000000 : Int64)).toInt64)) (9 : Int32).toNatClampNeg (fX2_dayNow T k)))))]) H := hP
  have hD : va_D A ((wM G b T) ++ [(q19, .inl (gC G 1, 10, .inr (.inl (vp_updL (vp_updL (vp_updL (vp_updL (vp_updL (vp_updL (vp_updL (vp_updL (vp_updL (vp_updL (fun _ => 0) (0 : Int32).toNatClampNeg ((my T k.toNatClampNeg).toInt64)) (1 : Int32).toNatClampNeg ((mm T k.toNatClampNeg).toInt64)) (2 : Int32).toNatClampNeg ((md T k.toNatClampNeg).toInt64)) (3 : Int32).toNatClampNeg ((fX2_inYearNow T k).toInt64)) (4 : Int32).toNatClampNeg ((fX2_weekDayNow T k).toInt64)) (5 : Int32).toNatClampNeg ((fX2_part T k (fX2_nanosOf (5 : Int32)) (24 : Int64)).toInt64)) (6 : Int32).toNatClampNeg ((fX2_part T k (fX2_nanosOf (4 : Int32)) (60 : Int64)).toInt64)) (7 : Int32).toNatClampNeg ((fX2_part T k (1000000000 : Int64) (60 : Int64)).toInt64)) (8 : Int32).toNatClampNeg ((fX2_part T k (1 : Int64) (1000000000 : Int64)).toInt64)) (9 : Int32).toNatClampNeg (fX2_dayNow T k)))))]) := hD
  refine lv_astore (lv' := [(4, .ref q19), (3, .int k), (1, .long d), (0, .ref (b 0))]) hx hb dX2_digest_141 hl (Nat.le_of_ble_eq_true rfl) rfl (fun ls hl => ?_)
  refine lv_aload hx hb dX2_digest_143 (lv_at hl 0 rfl) ?_
  refine lv_astore (lv' := [(5, .ref q19), (4, .ref q19), (3, .int k), (1, .long d), (0, .ref (b 0))]) hx hb dX2_digest_145 hl (Nat.le_of_ble_eq_true rfl) rfl (fun ls hl => ?_)
  refine lv_aload hx hb dX2_digest_147 (lv_at hl 0 rfl) ?_
  refine va_alen (tys := gT G) (v := (10 : Int32)) hx hb hE.K hP 5 1 rfl rfl rfl dX2_digest_149 ?_
  refine lv_istore (lv' := [(6, .int (10 : Int32)), (5, .ref q19), (4, .ref q19), (3, .int k), (1, .long d), (0, .ref (b 0))]) hx hb dX2_digest_150 hl (Nat.le_of_ble_eq_true rfl) rfl (fun ls hl => ?_)
  refine lv_iconst (v := (0 : Int32)) hx hb dX2_digest_152 qi_0 ?_
  refine lv_istore (lv' := [(7, .int (0 : Int32)), (6, .int (10 : Int32)), (5, .ref q19), (4, .ref q19), (3, .int k), (1, .long d), (0, .ref (b 0))]) hx hb dX2_digest_153 hl (Nat.le_of_ble_eq_true rfl) rfl (fun ls hl => ?_)
  refine lv_iload hx hb dX2_digest_155 (lv_at hl 0 rfl) ?_
  refine lv_iload hx hb dX2_digest_157 (lv_at hl 1 rfl) ?_
  refine lv_icmp_ge (tgt := 184) hx hb dX2_digest_159 (by decide) (fun c_x => absurd c_x (by decide)) (fun _ => ?_)
  refine lv_aload hx hb dX2_digest_162 (lv_at hl 2 rfl) ?_
  refine lv_iload hx hb dX2_digest_164 (lv_at hl 0 rfl) ?_
  refine va_lald (tys := gT G) hx hb hE.K hP 5 1 rfl rfl (vp_in_lit 0) dX2_digest_166 ?_
  refine k_foldl (y := ((my T k.toNatClampNeg).toInt64)) rfl ?_
  refine lv_lstore (lv' := [(8, .long ((my T k.toNatClampNeg).toInt64)), (7, .int (0 : Int32)), (6, .int (10 : Int32)), (5, .ref q19), (4, .ref q19), (3, .int k), (1, .long d), (0, .ref (b 0))]) hx hb dX2_digest_167 hl (Nat.le_of_ble_eq_true rfl) rfl (fun ls hl => ?_)
  refine lv_lload_n hx hb dX2_digest_169 rfl (lv_at hl 6 rfl) ?_
  refine lv_ldc2 (v := (31 : Int64)) hx hb hown (hw _ bw1629) dX2_digest_170 ?_
  refine lv_lmul hx hb dX2_digest_173 ?_
  refine lv_lload hx hb dX2_digest_174 (lv_at hl 0 rfl) ?_
  refine lv_ladd hx hb dX2_digest_176 ?_
  refine lv_lstore_n (lv' := [(1, .long ((d * (31 : Int64)) + ((my T k.toNatClampNeg).toInt64))), (8, .long ((my T k.toNatClampNeg).toInt64)), (7, .int (0 : Int32)), (6, .int (10 : Int32)), (5, .ref q19), (4, .ref q19), (3, .int k), (0, .ref (b 0))]) hx hb dX2_digest_177 rfl hl (Nat.le_of_ble_eq_true rfl) rfl (fun ls hl => ?_)
  refine lv_iinc (v := (1 : Int32)) (lv' := [(7, .int (1 : Int32)), (1, .long ((d * (31 : Int64)) + ((my T k.toNatClampNeg).toInt64))), (8, .long ((my T k.toNatClampNeg).toInt64)), (6, .int (10 : Int32)), (5, .ref q19), (4, .ref q19), (3, .int k), (0, .ref (b 0))]) hx hb dX2_digest_178 hl (k := 2) rfl (by first | rfl | decide) (Nat.le_of_ble_eq_true rfl) rfl (fun ls hl => ?_)
  refine lv_goto (tgt := 155) hx hb dX2_digest_181 (by decide) ?_
  refine lv_iload hx hb dX2_digest_155 (lv_at hl 0 rfl) ?_
  refine lv_iload hx hb dX2_digest_157 (lv_at hl 3 rfl) ?_
  refine lv_icmp_ge (tgt := 184) hx hb dX2_digest_159 (by decide) (fun c_x => absurd c_x (by decide)) (fun _ => ?_)
  refine lv_aload hx hb dX2_digest_162 (lv_at hl 4 rfl) ?_
  refine lv_iload hx hb dX2_digest_164 (lv_at hl 0 rfl) ?_
  refine va_lald (tys := gT G) hx hb hE.K hP 5 1 rfl rfl (vp_in_lit 1) dX2_digest_166 ?_
  refine k_foldl (y := ((mm T k.toNatClampNeg).toInt64)) rfl ?_
  refine lv_lstore (lv' := [(8, .long ((mm T k.toNatClampNeg).toInt64)), (7, .int (1 : Int32)), (1, .long ((d * (31 : Int64)) + ((my T k.toNatClampNeg).toInt64))), (6, .int (10 : Int32)), (5, .ref q19), (4, .ref q19), (3, .int k), (0, .ref (b 0))]) hx hb dX2_digest_167 hl (Nat.le_of_ble_eq_true rfl) rfl (fun ls hl => ?_)
  refine lv_lload_n hx hb dX2_digest_169 rfl (lv_at hl 2 rfl) ?_
  refine lv_ldc2 (v := (31 : Int64)) hx hb hown (hw _ bw1629) dX2_digest_170 ?_
  refine lv_lmul hx hb dX2_digest_173 ?_
  refine lv_lload hx hb dX2_digest_174 (lv_at hl 0 rfl) ?_
  refine lv_ladd hx hb dX2_digest_176 ?_
  refine lv_lstore_n (lv' := [(1, .long ((((d * (31 : Int64)) + ((my T k.toNatClampNeg).toInt64)) * (31 : Int64)) + ((mm T k.toNatClampNeg).toInt64))), (8, .long ((mm T k.toNatClampNeg).toInt64)), (7, .int (1 : Int32)), (6, .int (10 : Int32)), (5, .ref q19), (4, .ref q19), (3, .int k), (0, .ref (b 0))]) hx hb dX2_digest_177 rfl hl (Nat.le_of_ble_eq_true rfl) rfl (fun ls hl => ?_)
  refine lv_iinc (v := (2 : Int32)) (lv' := [(7, .int (2 : Int32)), (1, .long ((((d * (31 : Int64)) + ((my T k.toNatClampNeg).toInt64)) * (31 : Int64)) + ((mm T k.toNatClampNeg).toInt64))), (8, .long ((mm T k.toNatClampNeg).toInt64)), (6, .int (10 : Int32)), (5, .ref q19), (4, .ref q19), (3, .int k), (0, .ref (b 0))]) hx hb dX2_digest_178 hl (k := 2) rfl (by first | rfl | decide) (Nat.le_of_ble_eq_true rfl) rfl (fun ls hl => ?_)
  refine lv_goto (tgt := 155) hx hb dX2_digest_181 (by decide) ?_
  refine lv_iload hx hb dX2_digest_155 (lv_at hl 0 rfl) ?_
  refine lv_iload hx hb dX2_digest_157 (lv_at hl 3 rfl) ?_
  refine lv_icmp_ge (tgt := 184) hx hb dX2_digest_159 (by decide) (fun c_x => absurd c_x (by decide)) (fun _ => ?_)
  refine lv_aload hx hb dX2_digest_162 (lv_at hl 4 rfl) ?_
  refine lv_iload hx hb dX2_digest_164 (lv_at hl 0 rfl) ?_
  refine va_lald (tys := gT G) hx hb hE.K hP 5 1 rfl rfl (vp_in_lit 2) dX2_digest_166 ?_
  refine k_foldl (y := ((md T k.toNatClampNeg).toInt64)) rfl ?_
  refine lv_lstore (lv' := [(8, .long ((md T k.toNatClampNeg).toInt64)), (7, .int (2 : Int32)), (1, .long ((((d * (31 : Int64)) + ((my T k.toNatClampNeg).toInt64)) * (31 : Int64)) + ((mm T k.toNatClampNeg).toInt64))), (6, .int (10 : Int32)), (5, .ref q19), (4, .ref q19), (3, .int k), (0, .ref (b 0))]) hx hb dX2_digest_167 hl (Nat.le_of_ble_eq_true rfl) rfl (fun ls hl => ?_)
  refine lv_lload_n hx hb dX2_digest_169 rfl (lv_at hl 2 rfl) ?_
  refine lv_ldc2 (v := (31 : Int64)) hx hb hown (hw _ bw1629) dX2_digest_170 ?_
  refine lv_lmul hx hb dX2_digest_173 ?_
  refine lv_lload hx hb dX2_digest_174 (lv_at hl 0 rfl) ?_
  refine lv_ladd hx hb dX2_digest_176 ?_
  refine lv_lstore_n (lv' := [(1, .long ((((((d * (31 : Int64)) + ((my T k.toNatClampNeg).toInt64)) * (31 : Int64)) + ((mm T k.toNatClampNeg).toInt64)) * (31 : Int64)) + ((md T k.toNatClampNeg).toInt64))), (8, .long ((md T k.toNatClampNeg).toInt64)), (7, .int (2 : Int32)), (6, .int (10 : Int32)), (5, .ref q19), (4, .ref q19), (3, .int k), (0, .ref (b 0))]) hx hb dX2_digest_177 rfl hl (Nat.le_of_ble_eq_true rfl) rfl (fun ls hl => ?_)
  refine lv_iinc (v := (3 : Int32)) (lv' := [(7, .int (3 : Int32)), (1, .long ((((((d * (31 : Int64)) + ((my T k.toNatClampNeg).toInt64)) * (31 : Int64)) + ((mm T k.toNatClampNeg).toInt64)) * (31 : Int64)) + ((md T k.toNatClampNeg).toInt64))), (8, .long ((md T k.toNatClampNeg).toInt64)), (6, .int (10 : Int32)), (5, .ref q19), (4, .ref q19), (3, .int k), (0, .ref (b 0))]) hx hb dX2_digest_178 hl (k := 2) rfl (by first | rfl | decide) (Nat.le_of_ble_eq_true rfl) rfl (fun ls hl => ?_)
  refine lv_goto (tgt := 155) hx hb dX2_digest_181 (by decide) ?_
  refine lv_iload hx hb dX2_digest_155 (lv_at hl 0 rfl) ?_
  refine lv_iload hx hb dX2_digest_157 (lv_at hl 3 rfl) ?_
  refine lv_icmp_ge (tgt := 184) hx hb dX2_digest_159 (by decide) (fun c_x => absurd c_x (by decide)) (fun _ => ?_)
  refine lv_aload hx hb dX2_digest_162 (lv_at hl 4 rfl) ?_
  refine lv_iload hx hb dX2_digest_164 (lv_at hl 0 rfl) ?_
  refine va_lald (tys := gT G) hx hb hE.K hP 5 1 rfl rfl (vp_in_lit 3) dX2_digest_166 ?_
  refine k_foldl (y := ((fX2_inYearNow T k).toInt64)) rfl ?_
  refine lv_lstore (lv' := [(8, .long ((fX2_inYearNow T k).toInt64)), (7, .int (3 : Int32)), (1, .long ((((((d * (31 : Int64)) + ((my T k.toNatClampNeg).toInt64)) * (31 : Int64)) + ((mm T k.toNatClampNeg).toInt64)) * (31 : Int64)) + ((md T k.toNatClampNeg).toInt64))), (6, .int (10 : Int32)), (5, .ref q19), (4, .ref q19), (3, .int k), (0, .ref (b 0))]) hx hb dX2_digest_167 hl (Nat.le_of_ble_eq_true rfl) rfl (fun ls hl => ?_)
  refine lv_lload_n hx hb dX2_digest_169 rfl (lv_at hl 2 rfl) ?_
  refine lv_ldc2 (v := (31 : Int64)) hx hb hown (hw _ bw1629) dX2_digest_170 ?_
  refine lv_lmul hx hb dX2_digest_173 ?_
  refine lv_lload hx hb dX2_digest_174 (lv_at hl 0 rfl) ?_
  refine lv_ladd hx hb dX2_digest_176 ?_
  refine lv_lstore_n (lv' := [(1, .long ((((((((d * (31 : Int64)) + ((my T k.toNatClampNeg).toInt64)) * (31 : Int64)) + ((mm T k.toNatClampNeg).toInt64)) * (31 : Int64)) + ((md T k.toNatClampNeg).toInt64)) * (31 : Int64)) + ((fX2_inYearNow T k).toInt64))), (8, .long ((fX2_inYearNow T k).toInt64)), (7, .int (3 : Int32)), (6, .int (10 : Int32)), (5, .ref q19), (4, .ref q19), (3, .int k), (0, .ref (b 0))]) hx hb dX2_digest_177 rfl hl (Nat.le_of_ble_eq_true rfl) rfl (fun ls hl => ?_)
  refine lv_iinc (v := (4 : Int32)) (lv' := [(7, .int (4 : Int32)), (1, .long ((((((((d * (31 : Int64)) + ((my T k.toNatClampNeg).toInt64)) * (31 : Int64)) + ((mm T k.toNatClampNeg).toInt64)) * (31 : Int64)) + ((md T k.toNatClampNeg).toInt64)) * (31 : Int64)) + ((fX2_inYearNow T k).toInt64))), (8, .long ((fX2_inYearNow T k).toInt64)), (6, .int (10 : Int32)), (5, .ref q19), (4, .ref q19), (3, .int k), (0, .ref (b 0))]) hx hb dX2_digest_178 hl (k := 2) rfl (by first | rfl | decide) (Nat.le_of_ble_eq_true rfl) rfl (fun ls hl => ?_)
  refine lv_goto (tgt := 155) hx hb dX2_digest_181 (by decide) ?_
  refine lv_iload hx hb dX2_digest_155 (lv_at hl 0 rfl) ?_
  refine lv_iload hx hb dX2_digest_157 (lv_at hl 3 rfl) ?_
  refine lv_icmp_ge (tgt := 184) hx hb dX2_digest_159 (by decide) (fun c_x => absurd c_x (by decide)) (fun _ => ?_)
  refine lv_aload hx hb dX2_digest_162 (lv_at hl 4 rfl) ?_
  refine lv_iload hx hb dX2_digest_164 (lv_at hl 0 rfl) ?_
  refine va_lald (tys := gT G) hx hb hE.K hP 5 1 rfl rfl (vp_in_lit 4) dX2_digest_166 ?_
  refine k_foldl (y := ((fX2_weekDayNow T k).toInt64)) rfl ?_
  refine lv_lstore (lv' := [(8, .long ((fX2_weekDayNow T k).toInt64)), (7, .int (4 : Int32)), (1, .long ((((((((d * (31 : Int64)) + ((my T k.toNatClampNeg).toInt64)) * (31 : Int64)) + ((mm T k.toNatClampNeg).toInt64)) * (31 : Int64)) + ((md T k.toNatClampNeg).toInt64)) * (31 : Int64)) + ((fX2_inYearNow T k).toInt64))), (6, .int (10 : Int32)), (5, .ref q19), (4, .ref q19), (3, .int k), (0, .ref (b 0))]) hx hb dX2_digest_167 hl (Nat.le_of_ble_eq_true rfl) rfl (fun ls hl => ?_)
  refine lv_lload_n hx hb dX2_digest_169 rfl (lv_at hl 2 rfl) ?_
  refine lv_ldc2 (v := (31 : Int64)) hx hb hown (hw _ bw1629) dX2_digest_170 ?_
  refine lv_lmul hx hb dX2_digest_173 ?_
  refine lv_lload hx hb dX2_digest_174 (lv_at hl 0 rfl) ?_
  refine lv_ladd hx hb dX2_digest_176 ?_
  refine lv_lstore_n (lv' := [(1, .long ((((((((((d * (31 : Int64)) + ((my T k.toNatClampNeg).toInt64)) * (31 : Int64)) + ((mm T k.toNatClampNeg).toInt64)) * (31 : Int64)) + ((md T k.toNatClampNeg).toInt64)) * (31 : Int64)) + ((fX2_inYearNow T k).toInt64)) * (31 : Int64)) + ((fX2_weekDayNow T k).toInt64))), (8, .long ((fX2_weekDayNow T k).toInt64)), (7, .int (4 : Int32)), (6, .int (10 : Int32)), (5, .ref q19), (4, .ref q19), (3, .int k), (0, .ref (b 0))]) hx hb dX2_digest_177 rfl hl (Nat.le_of_ble_eq_true rfl) rfl (fun ls hl => ?_)
  refine lv_iinc (v := (5 : Int32)) (lv' := [(7, .int (5 : Int32)), (1, .long ((((((((((d * (31 : Int64)) + ((my T k.toNatClampNeg).toInt64)) * (31 : Int64)) + ((mm T k.toNatClampNeg).toInt64)) * (31 : Int64)) + ((md T k.toNatClampNeg).toInt64)) * (31 : Int64)) + ((fX2_inYearNow T k).toInt64)) * (31 : Int64)) + ((fX2_weekDayNow T k).toInt64))), (8, .long ((fX2_weekDayNow T k).toInt64)), (6, .int (10 : Int32)), (5, .ref q19), (4, .ref q19), (3, .int k), (0, .ref (b 0))]) hx hb dX2_digest_178 hl (k := 2) rfl (by first | rfl | decide) (Nat.le_of_ble_eq_true rfl) rfl (fun ls hl => ?_)
  refine lv_goto (tgt := 155) hx hb dX2_digest_181 (by decide) ?_
  refine lv_iload hx hb dX2_digest_155 (lv_at hl 0 rfl) ?_
  refine lv_iload hx hb dX2_digest_157 (lv_at hl 3 rfl) ?_
  refine lv_icmp_ge (tgt := 184) hx hb dX2_digest_159 (by decide) (fun c_x => absurd c_x (by decide)) (fun _ => ?_)
  refine lv_aload hx hb dX2_digest_162 (lv_at hl 4 rfl) ?_
  refine lv_iload hx hb dX2_digest_164 (lv_at hl 0 rfl) ?_
  refine va_lald (tys := gT G) hx hb hE.K hP 5 1 rfl rfl (vp_in_lit 5) dX2_digest_166 ?_
  refine k_foldl (y := ((fX2_part T k (fX2_nanosOf (5 : Int32)) (24 : Int64)).toInt64)) rfl ?_
  refine lv_lstore (lv' := [(8, .long ((fX2_part T k (fX2_nanosOf (5 : Int32)) (24 : Int64)).toInt64)), (7, .int (5 : Int32)), (1, .long ((((((((((d * (31 : Int64)) + ((my T k.toNatClampNeg).toInt64)) * (31 : Int64)) + ((mm T k.toNatClampNeg).toInt64)) * (31 : Int64)) + ((md T k.toNatClampNeg).toInt64)) * (31 : Int64)) + ((fX2_inYearNow T k).toInt64)) * (31 : Int64)) + ((fX2_weekDayNow T k).toInt64))), (6, .int (10 : Int32)), (5, .ref q19), (4, .ref q19), (3, .int k), (0, .ref (b 0))]) hx hb dX2_digest_167 hl (Nat.le_of_ble_eq_true rfl) rfl (fun ls hl => ?_)
  refine lv_lload_n hx hb dX2_digest_169 rfl (lv_at hl 2 rfl) ?_
  refine lv_ldc2 (v := (31 : Int64)) hx hb hown (hw _ bw1629) dX2_digest_170 ?_
  refine lv_lmul hx hb dX2_digest_173 ?_
  refine lv_lload hx hb dX2_digest_174 (lv_at hl 0 rfl) ?_
  refine lv_ladd hx hb dX2_digest_176 ?_
  refine lv_lstore_n (lv' := [(1, .long ((((((((((((d * (31 : Int64)) + ((my T k.toNatClampNeg).toInt64)) * (31 : Int64)) + ((mm T k.toNatClampNeg).toInt64)) * (31 : Int64)) + ((md T k.toNatClampNeg).toInt64)) * (31 : Int64)) + ((fX2_inYearNow T k).toInt64)) * (31 : Int64)) + ((fX2_weekDayNow T k).toInt64)) * (31 : Int64)) + ((fX2_part T k (fX2_nanosOf (5 : Int32)) (24 : Int64)).toInt64))), (8, .long ((fX2_part T k (fX2_nanosOf (5 : Int32)) (24 : Int64)).toInt64)), (7, .int (5 : Int32)), (6, .int (10 : Int32)), (5, .ref q19), (4, .ref q19), (3, .int k), (0, .ref (b 0))]) hx hb dX2_digest_177 rfl hl (Nat.le_of_ble_eq_true rfl) rfl (fun ls hl => ?_)
  refine lv_iinc (v := (6 : Int32)) (lv' := [(7, .int (6 : Int32)), (1, .long ((((((((((((d * (31 : Int64)) + ((my T k.toNatClampNeg).toInt64)) * (31 : Int64)) + ((mm T k.toNatClampNeg).toInt64)) * (31 : Int64)) + ((md T k.toNatClampNeg).toInt64)) * (31 : Int64)) + ((fX2_inYearNow T k).toInt64)) * (31 : Int64)) + ((fX2_weekDayNow T k).toInt64)) * (31 : Int64)) + ((fX2_part T k (fX2_nanosOf (5 : Int32)) (24 : Int64)).toInt64))), (8, .long ((fX2_part T k (fX2_nanosOf (5 : Int32)) (24 : Int64)).toInt64)), (6, .int (10 : Int32)), (5, .ref q19), (4, .ref q19), (3, .int k), (0, .ref (b 0))]) hx hb dX2_digest_178 hl (k := 2) rfl (by first | rfl | decide) (Nat.le_of_ble_eq_true rfl) rfl (fun ls hl => ?_)
  refine lv_goto (tgt := 155) hx hb dX2_digest_181 (by decide) ?_
  refine lv_iload hx hb dX2_digest_155 (lv_at hl 0 rfl) ?_
  refine lv_iload hx hb dX2_digest_157 (lv_at hl 3 rfl) ?_
  refine lv_icmp_ge (tgt := 184) hx hb dX2_digest_159 (by decide) (fun c_x => absurd c_x (by decide)) (fun _ => ?_)
  refine lv_aload hx hb dX2_digest_162 (lv_at hl 4 rfl) ?_
  refine lv_iload hx hb dX2_digest_164 (lv_at hl 0 rfl) ?_
  refine va_lald (tys := gT G) hx hb hE.K hP 5 1 rfl rfl (vp_in_lit 6) dX2_digest_166 ?_
  refine k_foldl (y := ((fX2_part T k (fX2_nanosOf (4 : Int32)) (60 : Int64)).toInt64)) rfl ?_
  refine lv_lstore (lv' := [(8, .long ((fX2_part T k (fX2_nanosOf (4 : Int32)) (60 : Int64)).toInt64)), (7, .int (6 : Int32)), (1, .long ((((((((((((d * (31 : Int64)) + ((my T k.toNatClampNeg).toInt64)) * (31 : Int64)) + ((mm T k.toNatClampNeg).toInt64)) * (31 : Int64)) + ((md T k.toNatClampNeg).toInt64)) * (31 : Int64)) + ((fX2_inYearNow T k).toInt64)) * (31 : Int64)) + ((fX2_weekDayNow T k).toInt64)) * (31 : Int64)) + ((fX2_part T k (fX2_nanosOf (5 : Int32)) (24 : Int64)).toInt64))), (6, .int (10 : Int32)), (5, .ref q19), (4, .ref q19), (3, .int k), (0, .ref (b 0))]) hx hb dX2_digest_167 hl (Nat.le_of_ble_eq_true rfl) rfl (fun ls hl => ?_)
  refine lv_lload_n hx hb dX2_digest_169 rfl (lv_at hl 2 rfl) ?_
  refine lv_ldc2 (v := (31 : Int64)) hx hb hown (hw _ bw1629) dX2_digest_170 ?_
  refine lv_lmul hx hb dX2_digest_173 ?_
  refine lv_lload hx hb dX2_digest_174 (lv_at hl 0 rfl) ?_
  refine lv_ladd hx hb dX2_digest_176 ?_
  refine lv_lstore_n (lv' := [(1, .long ((((((((((((((d * (31 : Int64)) + ((my T k.toNatClampNeg).toInt64)) * (31 : Int64)) + ((mm T k.toNatClampNeg).toInt64)) * (31 : Int64)) + ((md T k.toNatClampNeg).toInt64)) * (31 : Int64)) + ((fX2_inYearNow T k).toInt64)) * (31 : Int64)) + ((fX2_weekDayNow T k).toInt64)) * (31 : Int64)) + ((fX2_part T k (fX2_nanosOf (5 : Int32)) (24 : Int64)).toInt64)) * (31 : Int64)) + ((fX2_part T k (fX2_nanosOf (4 : Int32)) (60 : Int64)).toInt64))), (8, .long ((fX2_part T k (fX2_nanosOf (4 : Int32)) (60 : Int64)).toInt64)), (7, .int (6 : Int32)), (6, .int (10 : Int32)), (5, .ref q19), (4, .ref q19), (3, .int k), (0, .ref (b 0))]) hx hb dX2_digest_177 rfl hl (Nat.le_of_ble_eq_true rfl) rfl (fun ls hl => ?_)
  refine lv_iinc (v := (7 : Int32)) (lv' := [(7, .int (7 : Int32)), (1, .long ((((((((((((((d * (31 : Int64)) + ((my T k.toNatClampNeg).toInt64)) * (31 : Int64)) + ((mm T k.toNatClampNeg).toInt64)) * (31 : Int64)) + ((md T k.toNatClampNeg).toInt64)) * (31 : Int64)) + ((fX2_inYearNow T k).toInt64)) * (31 : Int64)) + ((fX2_weekDayNow T k).toInt64)) * (31 : Int64)) + ((fX2_part T k (fX2_nanosOf (5 : Int32)) (24 : Int64)).toInt64)) * (31 : Int64)) + ((fX2_part T k (fX2_nanosOf (4 : Int32)) (60 : Int64)).toInt64))), (8, .long ((fX2_part T k (fX2_nanosOf (4 : Int32)) (60 : Int64)).toInt64)), (6, .int (10 : Int32)), (5, .ref q19), (4, .ref q19), (3, .int k), (0, .ref (b 0))]) hx hb dX2_digest_178 hl (k := 2) rfl (by first | rfl | decide) (Nat.le_of_ble_eq_true rfl) rfl (fun ls hl => ?_)
  refine lv_goto (tgt := 155) hx hb dX2_digest_181 (by decide) ?_
  refine lv_iload hx hb dX2_digest_155 (lv_at hl 0 rfl) ?_
  refine lv_iload hx hb dX2_digest_157 (lv_at hl 3 rfl) ?_
  refine lv_icmp_ge (tgt := 184) hx hb dX2_digest_159 (by decide) (fun c_x => absurd c_x (by decide)) (fun _ => ?_)
  refine lv_aload hx hb dX2_digest_162 (lv_at hl 4 rfl) ?_
  refine lv_iload hx hb dX2_digest_164 (lv_at hl 0 rfl) ?_
  refine va_lald (tys := gT G) hx hb hE.K hP 5 1 rfl rfl (vp_in_lit 7) dX2_digest_166 ?_
  refine k_foldl (y := ((fX2_part T k (1000000000 : Int64) (60 : Int64)).toInt64)) rfl ?_
  refine lv_lstore (lv' := [(8, .long ((fX2_part T k (1000000000 : Int64) (60 : Int64)).toInt64)), (7, .int (7 : Int32)), (1, .long ((((((((((((((d * (31 : Int64)) + ((my T k.toNatClampNeg).toInt64)) * (31 : Int64)) + ((mm T k.toNatClampNeg).toInt64)) * (31 : Int64)) + ((md T k.toNatClampNeg).toInt64)) * (31 : Int64)) + ((fX2_inYearNow T k).toInt64)) * (31 : Int64)) + ((fX2_weekDayNow T k).toInt64)) * (31 : Int64)) + ((fX2_part T k (fX2_nanosOf (5 : Int32)) (24 : Int64)).toInt64)) * (31 : Int64)) + ((fX2_part T k (fX2_nanosOf (4 : Int32)) (60 : Int64)).toInt64))), (6, .int (10 : Int32)), (5, .ref q19), (4, .ref q19), (3, .int k), (0, .ref (b 0))]) hx hb dX2_digest_167 hl (Nat.le_of_ble_eq_true rfl) rfl (fun ls hl => ?_)
  refine lv_lload_n hx hb dX2_digest_169 rfl (lv_at hl 2 rfl) ?_
  refine lv_ldc2 (v := (31 : Int64)) hx hb hown (hw _ bw1629) dX2_digest_170 ?_
  refine lv_lmul hx hb dX2_digest_173 ?_
  refine lv_lload hx hb dX2_digest_174 (lv_at hl 0 rfl) ?_
  refine lv_ladd hx hb dX2_digest_176 ?_
  refine lv_lstore_n (lv' := [(1, .long ((((((((((((((((d * (31 : Int64)) + ((my T k.toNatClampNeg).toInt64)) * (31 : Int64)) + ((mm T k.toNatClampNeg).toInt64)) * (31 : Int64)) + ((md T k.toNatClampNeg).toInt64)) * (31 : Int64)) + ((fX2_inYearNow T k).toInt64)) * (31 : Int64)) + ((fX2_weekDayNow T k).toInt64)) * (31 : Int64)) + ((fX2_part T k (fX2_nanosOf (5 : Int32)) (24 : Int64)).toInt64)) * (31 : Int64)) + ((fX2_part T k (fX2_nanosOf (4 : Int32)) (60 : Int64)).toInt64)) * (31 : Int64)) + ((fX2_part T k (1000000000 : Int64) (60 : Int64)).toInt64))), (8, .long ((fX2_part T k (1000000000 : Int64) (60 : Int64)).toInt64)), (7, .int (7 : Int32)), (6, .int (10 : Int32)), (5, .ref q19), (4, .ref q19), (3, .int k), (0, .ref (b 0))]) hx hb dX2_digest_177 rfl hl (Nat.le_of_ble_eq_true rfl) rfl (fun ls hl => ?_)
  refine lv_iinc (v := (8 : Int32)) (lv' := [(7, .int (8 : Int32)), (1, .long ((((((((((((((((d * (31 : Int64)) + ((my T k.toNatClampNeg).toInt64)) * (31 : Int64)) + ((mm T k.toNatClampNeg).toInt64)) * (31 : Int64)) + ((md T k.toNatClampNeg).toInt64)) * (31 : Int64)) + ((fX2_inYearNow T k).toInt64)) * (31 : Int64)) + ((fX2_weekDayNow T k).toInt64)) * (31 : Int64)) + ((fX2_part T k (fX2_nanosOf (5 : Int32)) (24 : Int64)).toInt64)) * (31 : Int64)) + ((fX2_part T k (fX2_nanosOf (4 : Int32)) (60 : Int64)).toInt64)) * (31 : Int64)) + ((fX2_part T k (1000000000 : Int64) (60 : Int64)).toInt64))), (8, .long ((fX2_part T k (1000000000 : Int64) (60 : Int64)).toInt64)), (6, .int (10 : Int32)), (5, .ref q19), (4, .ref q19), (3, .int k), (0, .ref (b 0))]) hx hb dX2_digest_178 hl (k := 2) rfl (by first | rfl | decide) (Nat.le_of_ble_eq_true rfl) rfl (fun ls hl => ?_)
  refine lv_goto (tgt := 155) hx hb dX2_digest_181 (by decide) ?_
  refine lv_iload hx hb dX2_digest_155 (lv_at hl 0 rfl) ?_
  refine lv_iload hx hb dX2_digest_157 (lv_at hl 3 rfl) ?_
  refine lv_icmp_ge (tgt := 184) hx hb dX2_digest_159 (by decide) (fun c_x => absurd c_x (by decide)) (fun _ => ?_)
  refine lv_aload hx hb dX2_digest_162 (lv_at hl 4 rfl) ?_
  refine lv_iload hx hb dX2_digest_164 (lv_at hl 0 rfl) ?_
  refine va_lald (tys := gT G) hx hb hE.K hP 5 1 rfl rfl (vp_in_lit 8) dX2_digest_166 ?_
  refine k_foldl (y := ((fX2_part T k (1 : Int64) (1000000000 : Int64)).toInt64)) rfl ?_
  refine lv_lstore (lv' := [(8, .long ((fX2_part T k (1 : Int64) (1000000000 : Int64)).toInt64)), (7, .int (8 : Int32)), (1, .long ((((((((((((((((d * (31 : Int64)) + ((my T k.toNatClampNeg).toInt64)) * (31 : Int64)) + ((mm T k.toNatClampNeg).toInt64)) * (31 : Int64)) + ((md T k.toNatClampNeg).toInt64)) * (31 : Int64)) + ((fX2_inYearNow T k).toInt64)) * (31 : Int64)) + ((fX2_weekDayNow T k).toInt64)) * (31 : Int64)) + ((fX2_part T k (fX2_nanosOf (5 : Int32)) (24 : Int64)).toInt64)) * (31 : Int64)) + ((fX2_part T k (fX2_nanosOf (4 : Int32)) (60 : Int64)).toInt64)) * (31 : Int64)) + ((fX2_part T k (1000000000 : Int64) (60 : Int64)).toInt64))), (6, .int (10 : Int32)), (5, .ref q19), (4, .ref q19), (3, .int k), (0, .ref (b 0))]) hx hb dX2_digest_167 hl (Nat.le_of_ble_eq_true rfl) rfl (fun ls hl => ?_)
  refine lv_lload_n hx hb dX2_digest_169 rfl (lv_at hl 2 rfl) ?_
  refine lv_ldc2 (v := (31 : Int64)) hx hb hown (hw _ bw1629) dX2_digest_170 ?_
  refine lv_lmul hx hb dX2_digest_173 ?_
  refine lv_lload hx hb dX2_digest_174 (lv_at hl 0 rfl) ?_
  refine lv_ladd hx hb dX2_digest_176 ?_
  refine lv_lstore_n (lv' := [(1, .long ((((((((((((((((((d * (31 : Int64)) + ((my T k.toNatClampNeg).toInt64)) * (31 : Int64)) + ((mm T k.toNatClampNeg).toInt64)) * (31 : Int64)) + ((md T k.toNatClampNeg).toInt64)) * (31 : Int64)) + ((fX2_inYearNow T k).toInt64)) * (31 : Int64)) + ((fX2_weekDayNow T k).toInt64)) * (31 : Int64)) + ((fX2_part T k (fX2_nanosOf (5 : Int32)) (24 : Int64)).toInt64)) * (31 : Int64)) + ((fX2_part T k (fX2_nanosOf (4 : Int32)) (60 : Int64)).toInt64)) * (31 : Int64)) + ((fX2_part T k (1000000000 : Int64) (60 : Int64)).toInt64)) * (31 : Int64)) + ((fX2_part T k (1 : Int64) (1000000000 : Int64)).toInt64))), (8, .long ((fX2_part T k (1 : Int64) (1000000000 : Int64)).toInt64)), (7, .int (8 : Int32)), (6, .int (10 : Int32)), (5, .ref q19), (4, .ref q19), (3, .int k), (0, .ref (b 0))]) hx hb dX2_digest_177 rfl hl (Nat.le_of_ble_eq_true rfl) rfl (fun ls hl => ?_)
  refine lv_iinc (v := (9 : Int32)) (lv' := [(7, .int (9 : Int32)), (1, .long ((((((((((((((((((d * (31 : Int64)) + ((my T k.toNatClampNeg).toInt64)) * (31 : Int64)) + ((mm T k.toNatClampNeg).toInt64)) * (31 : Int64)) + ((md T k.toNatClampNeg).toInt64)) * (31 : Int64)) + ((fX2_inYearNow T k).toInt64)) * (31 : Int64)) + ((fX2_weekDayNow T k).toInt64)) * (31 : Int64)) + ((fX2_part T k (fX2_nanosOf (5 : Int32)) (24 : Int64)).toInt64)) * (31 : Int64)) + ((fX2_part T k (fX2_nanosOf (4 : Int32)) (60 : Int64)).toInt64)) * (31 : Int64)) + ((fX2_part T k (1000000000 : Int64) (60 : Int64)).toInt64)) * (31 : Int64)) + ((fX2_part T k (1 : Int64) (1000000000 : Int64)).toInt64))), (8, .long ((fX2_part T k (1 : Int64) (1000000000 : Int64)).toInt64)), (6, .int (10 : Int32)), (5, .ref q19), (4, .ref q19), (3, .int k), (0, .ref (b 0))]) hx hb dX2_digest_178 hl (k := 2) rfl (by first | rfl | decide) (Nat.le_of_ble_eq_true rfl) rfl (fun ls hl => ?_)
  refine lv_goto (tgt := 155) hx hb dX2_digest_181 (by decide) ?_
  refine lv_iload hx hb dX2_digest_155 (lv_at hl 0 rfl) ?_
  refine lv_iload hx hb dX2_digest_157 (lv_at hl 3 rfl) ?_
  refine lv_icmp_ge (tgt := 184) hx hb dX2_digest_159 (by decide) (fun c_x => absurd c_x (by decide)) (fun _ => ?_)
  refine lv_aload hx hb dX2_digest_162 (lv_at hl 4 rfl) ?_
  refine lv_iload hx hb dX2_digest_164 (lv_at hl 0 rfl) ?_
  refine va_lald (tys := gT G) hx hb hE.K hP 5 1 rfl rfl (vp_in_lit 9) dX2_digest_166 ?_
  refine k_foldl (y := (fX2_dayNow T k)) rfl ?_
  refine lv_lstore (lv' := [(8, .long (fX2_dayNow T k)), (7, .int (9 : Int32)), (1, .long ((((((((((((((((((d * (31 : Int64)) + ((my T k.toNatClampNeg).toInt64)) * (31 : Int64)) + ((mm T k.toNatClampNeg).toInt64)) * (31 : Int64)) + ((md T k.toNatClampNeg).toInt64)) * (31 : Int64)) + ((fX2_inYearNow T k).toInt64)) * (31 : Int64)) + ((fX2_weekDayNow T k).toInt64)) * (31 : Int64)) + ((fX2_part T k (fX2_nanosOf (5 : Int32)) (24 : Int64)).toInt64)) * (31 : Int64)) + ((fX2_part T k (fX2_nanosOf (4 : Int32)) (60 : Int64)).toInt64)) * (31 : Int64)) + ((fX2_part T k (1000000000 : Int64) (60 : Int64)).toInt64)) * (31 : Int64)) + ((fX2_part T k (1 : Int64) (1000000000 : Int64)).toInt64))), (6, .int (10 : Int32)), (5, .ref q19), (4, .ref q19), (3, .int k), (0, .ref (b 0))]) hx hb dX2_digest_167 hl (Nat.le_of_ble_eq_true rfl) rfl (fun ls hl => ?_)
  refine lv_lload_n hx hb dX2_digest_169 rfl (lv_at hl 2 rfl) ?_
  refine lv_ldc2 (v := (31 : Int64)) hx hb hown (hw _ bw1629) dX2_digest_170 ?_
  refine lv_lmul hx hb dX2_digest_173 ?_
  refine lv_lload hx hb dX2_digest_174 (lv_at hl 0 rfl) ?_
  refine lv_ladd hx hb dX2_digest_176 ?_
  refine lv_lstore_n (lv' := [(1, .long ((((((((((((((((((((d * (31 : Int64)) + ((my T k.toNatClampNeg).toInt64)) * (31 : Int64)) + ((mm T k.toNatClampNeg).toInt64)) * (31 : Int64)) + ((md T k.toNatClampNeg).toInt64)) * (31 : Int64)) + ((fX2_inYearNow T k).toInt64)) * (31 : Int64)) + ((fX2_weekDayNow T k).toInt64)) * (31 : Int64)) + ((fX2_part T k (fX2_nanosOf (5 : Int32)) (24 : Int64)).toInt64)) * (31 : Int64)) + ((fX2_part T k (fX2_nanosOf (4 : Int32)) (60 : Int64)).toInt64)) * (31 : Int64)) + ((fX2_part T k (1000000000 : Int64) (60 : Int64)).toInt64)) * (31 : Int64)) + ((fX2_part T k (1 : Int64) (1000000000 : Int64)).toInt64)) * (31 : Int64)) + (fX2_dayNow T k))), (8, .long (fX2_dayNow T k)), (7, .int (9 : Int32)), (6, .int (10 : Int32)), (5, .ref q19), (4, .ref q19), (3, .int k), (0, .ref (b 0))]) hx hb dX2_digest_177 rfl hl (Nat.le_of_ble_eq_true rfl) rfl (fun ls hl => ?_)
  refine lv_iinc (v := (10 : Int32)) (lv' := [(7, .int (10 : Int32)), (1, .long ((((((((((((((((((((d * (31 : Int64)) + ((my T k.toNatClampNeg).toInt64)) * (31 : Int64)) + ((mm T k.toNatClampNeg).toInt64)) * (31 : Int64)) + ((md T k.toNatClampNeg).toInt64)) * (31 : Int64)) + ((fX2_inYearNow T k).toInt64)) * (31 : Int64)) + ((fX2_weekDayNow T k).toInt64)) * (31 : Int64)) + ((fX2_part T k (fX2_nanosOf (5 : Int32)) (24 : Int64)).toInt64)) * (31 : Int64)) + ((fX2_part T k (fX2_nanosOf (4 : Int32)) (60 : Int64)).toInt64)) * (31 : Int64)) + ((fX2_part T k (1000000000 : Int64) (60 : Int64)).toInt64)) * (31 : Int64)) + ((fX2_part T k (1 : Int64) (1000000000 : Int64)).toInt64)) * (31 : Int64)) + (fX2_dayNow T k))), (8, .long (fX2_dayNow T k)), (6, .int (10 : Int32)), (5, .ref q19), (4, .ref q19), (3, .int k), (0, .ref (b 0))]) hx hb dX2_digest_178 hl (k := 2) rfl (by first | rfl | decide) (Nat.le_of_ble_eq_true rfl) rfl (fun ls hl => ?_)
  refine lv_goto (tgt := 155) hx hb dX2_digest_181 (by decide) ?_
  refine lv_iload hx hb dX2_digest_155 (lv_at hl 0 rfl) ?_
  refine lv_iload hx hb dX2_digest_157 (lv_at hl 3 rfl) ?_
  refine lv_icmp_ge (tgt := 184) hx hb dX2_digest_159 (by decide) (fun _ => ?_) (fun c_x => absurd (show (10 : Int32) ≤ (10 : Int32) from by decide) c_x)
  have hl : lv_has ls 10 [(7, .int (10 : Int32)), (1, .long (fX2_mom T d k)), (8, .long (fX2_dayNow T k)), (6, .int (10 : Int32)), (5, .ref q19), (4, .ref q19), (3, .int k), (0, .ref (b 0))] := hl
  exact kk _ _ (hP.sub [0, 1, 2, 3, 4] rfl) (hD.sub [0, 1, 2, 3, 4] (by decide) rfl) hS ls (lv_sub hl [6, 1, 7] rfl)

