set_option maxRecDepth 100000 in
set_option maxHeartbeats 4000000 in
theorem gLoop1 {p : Program} {l : Launch} {e : Env} {R : Room} {s : State} {m : MethodId} {args : Array Value} {below : List Frame} {meth : Method} {c : Code} {Q : State → Prop} {G : GT} {A : Nat → Prop} {cells slots : Nat} (C : CallFix p m c cJ13_getChars_11360 11 s args BW RJ13) (hE : EV G s s.heap) (hA : ∀ q : Nat, s.heap.size ≤ q → A q) (hAB : ∀ q : Nat, A q → gB G ≤ q) {v n d N K : Nat} {g : Int32} (hn9 : n < 35) (hd9 : d ≤ 1) : ∀ (k : Nat), ∀ (y : Int64) (f : Nat → Int32), 1 ≤ k → (-y.toInt).toNat < 10 ^ k → y.toInt ≤ 0 → sb_Fit f → GC N K d k (-y.toInt).toNat f → k + d ≤ n → ∀ (H : Heap) (locs : List Loc), va_P (gD G) vwCl [(v, .inl (gC G 2, n, .inl f))] H → va_D A [(v, .inl (gC G 2, n, .inl f))] → va_S A s.heap H locs → ∀ ls : Array Slot, lv_has ls 11 [(0, .long y), (3, .ref v), (7, .int (nI (k + d))), (8, .int g)] → (∀ (k : Nat), ∀ (y : Int64) (f : Nat → Int32), 1 ≤ k → (-y.toInt).toNat < 10 ^ k → y.toInt ≤ 0 → sb_Fit f → GC N K d k (-y.toInt).toNat f → k + d ≤ n → 0 < lg_cmp y (-2147483648 : Int64) → ∀ (H : Heap) (locs : List Loc), va_P (gD G) vwCl [(v, .inl (gC G 2, n, .inl f))] H → va_D A [(v, .inl (gC G 2, n, .inl f))] → va_S A s.heap H locs → ∀ ls : Array Slot, lv_has ls 11 [(0, .long y), (3, .ref v), (7, .int (nI (k + d))), (8, .int g)] → W p l e R s m args below meth c H locs cells slots Q (F0 m 82 ls [])) → W p l e R s m args below meth c H locs cells slots Q (F0 m 24 ls []) := by
  have hx := C.1
  have hb := C.2.1
  have hml := C.2.2.1
  have hown := C.2.2.2.1
  have hw := C.2.2.2.2
  intro k
  induction k using Nat.strongRecOn with
  | _ k ih =>
    intro y f hk h1 h2 hf hC hn H locs hP hD hS ls hl kk
    refine lv_lload_n hx hb dJ13_getChars_11360_24 rfl (lv_at hl 0 rfl) ?_
    refine lv_ldc2 (v := (-2147483648 : Int64)) hx hb hown (hw _ bw1528) dJ13_getChars_11360_25 ?_
    refine W.lcmp hx hb dJ13_getChars_11360_28 ?_
    refine lv_if_gt (tgt := 82) hx hb dJ13_getChars_11360_29 (by decide) (fun c_1 => ?_) (fun c_1 => ?_)
    · exact kk k y f hk h1 h2 hf hC hn c_1 H locs hP hD hS ls (lv_sub hl [0, 1, 2, 3] rfl)
    · have gk := gc1 h1 h2 c_1
      refine lv_lload_n hx hb dJ13_getChars_11360_32 rfl (lv_at hl 0 rfl) ?_
      refine lv_ldc2 (v := (100 : Int64)) hx hb hown (hw _ bw1529) dJ13_getChars_11360_33 ?_
      refine lv_ldiv hx hb dJ13_getChars_11360_36 (by decide) ?_
      refine lv_lstore (lv' := [(4, .long (y / (100 : Int64))), (0, .long y), (3, .ref v), (7, .int (nI (k + d))), (8, .int g)]) hx hb dJ13_getChars_11360_37 hl (Nat.le_of_ble_eq_true rfl) rfl (fun ls hl => ?_)
      refine lv_lload hx hb dJ13_getChars_11360_39 (lv_at hl 0 rfl) ?_
      refine lv_ldc2 (v := (100 : Int64)) hx hb hown (hw _ bw1529) dJ13_getChars_11360_41 ?_
      refine lv_lmul hx hb dJ13_getChars_11360_44 ?_
      refine lv_lload_n hx hb dJ13_getChars_11360_45 rfl (lv_at hl 1 rfl) ?_
      refine lv_lsub hx hb dJ13_getChars_11360_46 ?_
      refine lv_l2i (v := ((((y / (100 : Int64)) * (100 : Int64)) - y).toInt32)) hx hb dJ13_getChars_11360_47 (by first | rfl | decide) ?_
      refine lv_istore (lv' := [(6, .int ((((y / (100 : Int64)) * (100 : Int64)) - y).toInt32)), (4, .long (y / (100 : Int64))), (0, .long y), (3, .ref v), (7, .int (nI (k + d))), (8, .int g)]) hx hb dJ13_getChars_11360_48 hl (Nat.le_of_ble_eq_true rfl) rfl (fun ls hl => ?_)
      refine lv_lload hx hb dJ13_getChars_11360_50 (lv_at hl 1 rfl) ?_
      refine lv_lstore_n (lv' := [(0, .long (y / (100 : Int64))), (6, .int ((((y / (100 : Int64)) * (100 : Int64)) - y).toInt32)), (4, .long (y / (100 : Int64))), (3, .ref v), (7, .int (nI (k + d))), (8, .int g)]) hx hb dJ13_getChars_11360_52 rfl hl (Nat.le_of_ble_eq_true rfl) rfl (fun ls hl => ?_)
      refine lv_aload_n hx hb dJ13_getChars_11360_53 rfl (lv_at hl 3 rfl) ?_
      refine lv_iinc (v := (nI ((k + d) - 1))) (lv' := [(7, .int (nI ((k + d) - 1))), (0, .long (y / (100 : Int64))), (6, .int ((((y / (100 : Int64)) * (100 : Int64)) - y).toInt32)), (4, .long (y / (100 : Int64))), (3, .ref v), (8, .int g)]) hx hb dJ13_getChars_11360_54 hl (k := 4) rfl (nI_dec (by omega)) (Nat.le_of_ble_eq_true rfl) rfl (fun ls hl => ?_)
      refine lv_iload hx hb dJ13_getChars_11360_57 (lv_at hl 0 rfl) ?_
      refine va_gets hx hb hE.2.2.2.2.2.2.2.1 (hS.wide hAB) hown (hw _ bw1530) (fun _ h9 => h9) dJ13_getChars_11360_59 ?_
      refine lv_iload hx hb dJ13_getChars_11360_62 (lv_at hl 2 rfl) ?_
      refine va_tb hx hb hE.2.2.2.2.2.2.2.2.1 (hS.wide hAB) gk.2.2.2 rfl dJ13_getChars_11360_64 ?_
      refine va_bast (tys := gT G) hx hb hE.K hP hD hS 0 2 rfl rfl (vp_in_nI (by omega) (by omega)) dJ13_getChars_11360_65 (fun H locs hP hD hS => ?_)
      have hP : va_P (gD G) vwCl [(v, .inl (gC G 2, n, .inl (upd f (nI ((k + d) - 1)).toNatClampNeg (vp_nar .byte (tD1 ((((y / (100 : Int64)) * (100 : Int64)) - y).toInt32).toNatClampNeg)))))] H := hP
      have hD : va_D A [(v, .inl (gC G 2, n, .inl (upd f (nI ((k + d) - 1)).toNatClampNeg (vp_nar .byte (tD1 ((((y / (100 : Int64)) * (100 : Int64)) - y).toInt32).toNatClampNeg)))))] := hD
      refine lv_aload_n hx hb dJ13_getChars_11360_66 rfl (lv_at hl 4 rfl) ?_
      refine lv_iinc (v := (nI (((k + d) - 1) - 1))) (lv' := [(7, .int (nI (((k + d) - 1) - 1))), (0, .long (y / (100 : Int64))), (6, .int ((((y / (100 : Int64)) * (100 : Int64)) - y).toInt32)), (4, .long (y / (100 : Int64))), (3, .ref v), (8, .int g)]) hx hb dJ13_getChars_11360_67 hl (k := 0) rfl (nI_dec (by omega)) (Nat.le_of_ble_eq_true rfl) rfl (fun ls hl => ?_)
      refine lv_iload hx hb dJ13_getChars_11360_70 (lv_at hl 0 rfl) ?_
      refine va_gets hx hb hE.2.2.2.2.2.2.2.2.2.1 (hS.wide hAB) hown (hw _ bw1531) (fun _ h9 => h9) dJ13_getChars_11360_72 ?_
      refine lv_iload hx hb dJ13_getChars_11360_75 (lv_at hl 2 rfl) ?_
      refine va_tb hx hb hE.2.2.2.2.2.2.2.2.2.2.1 (hS.wide hAB) gk.2.2.2 rfl dJ13_getChars_11360_77 ?_
      refine va_bast (tys := gT G) hx hb hE.K hP hD hS 0 2 rfl rfl (vp_in_nI (by omega) (by omega)) dJ13_getChars_11360_78 (fun H locs hP hD hS => ?_)
      have hP : va_P (gD G) vwCl [(v, .inl (gC G 2, n, .inl (upd (upd f (nI ((k + d) - 1)).toNatClampNeg (vp_nar .byte (tD1 ((((y / (100 : Int64)) * (100 : Int64)) - y).toInt32).toNatClampNeg))) (nI (((k + d) - 1) - 1)).toNatClampNeg (vp_nar .byte (tD10 ((((y / (100 : Int64)) * (100 : Int64)) - y).toInt32).toNatClampNeg)))))] H := hP
      have hD : va_D A [(v, .inl (gC G 2, n, .inl (upd (upd f (nI ((k + d) - 1)).toNatClampNeg (vp_nar .byte (tD1 ((((y / (100 : Int64)) * (100 : Int64)) - y).toInt32).toNatClampNeg))) (nI (((k + d) - 1) - 1)).toNatClampNeg (vp_nar .byte (tD10 ((((y / (100 : Int64)) * (100 : Int64)) - y).toInt32).toNatClampNeg)))))] := hD
      refine lv_goto (tgt := 24) hx hb dJ13_getChars_11360_79 (by decide) ?_
      have ek : k + d - 1 - 1 = (k - 2) + d := by omega
      rw [ek] at hl
      exact ih (k - 2) (by omega) (y / (100 : Int64)) _ (by omega) gk.2.1 gk.2.2.1 (sb_fitU (sb_fitU hf (fit_nar _)) (fit_nar _)) (gcs1 hC gk.1 h2 (by omega)) (by omega) H locs hP hD hS ls (lv_sub hl [1, 4, 0, 5] rfl) kk

set_option maxRecDepth 100000 in
set_option maxHeartbeats 4000000 in
theorem gLoop2 {p : Program} {l : Launch} {e : Env} {R : Room} {s : State} {m : MethodId} {args : Array Value} {below : List Frame} {meth : Method} {c : Code} {Q : State → Prop} {G : GT} {A : Nat → Prop} {cells slots : Nat} (C : CallFix p m c cJ13_getChars_11360 11 s args BW RJ13) (hE : EV G s s.heap) (hA : ∀ q : Nat, s.heap.size ≤ q → A q) (hAB : ∀ q : Nat, A q → gB G ≤ q) {v n d N K : Nat} {g : Int32} (hn9 : n < 35) (hd9 : d ≤ 1) : ∀ (k : Nat), ∀ (y : Int32) (f : Nat → Int32), 1 ≤ k → (-y.toInt).toNat < 10 ^ k → y.toInt ≤ 0 → sb_Fit f → GC N K d k (-y.toInt).toNat f → k + d ≤ n → ∀ (H : Heap) (locs : List Loc), va_P (gD G) vwCl [(v, .inl (gC G 2, n, .inl f))] H → va_D A [(v, .inl (gC G 2, n, .inl f))] → va_S A s.heap H locs → ∀ ls : Array Slot, lv_has ls 11 [(10, .int y), (3, .ref v), (7, .int (nI (k + d))), (8, .int g)] → (∀ (k : Nat), ∀ (y : Int32) (f : Nat → Int32), 1 ≤ k → (-y.toInt).toNat < 10 ^ k → y.toInt ≤ 0 → sb_Fit f → GC N K d k (-y.toInt).toNat f → k + d ≤ n → (-100 : Int32) < y → ∀ (H : Heap) (locs : List Loc), va_P (gD G) vwCl [(v, .inl (gC G 2, n, .inl f))] H → va_D A [(v, .inl (gC G 2, n, .inl f))] → va_S A s.heap H locs → ∀ ls : Array Slot, lv_has ls 11 [(10, .int y), (3, .ref v), (7, .int (nI (k + d))), (8, .int g)] → W p l e R s m args below meth c H locs cells slots Q (F0 m 143 ls [])) → W p l e R s m args below meth c H locs cells slots Q (F0 m 86 ls []) := by
  have hx := C.1
  have hb := C.2.1
  have hml := C.2.2.1
  have hown := C.2.2.2.1
  have hw := C.2.2.2.2
  intro k
  induction k using Nat.strongRecOn with
  | _ k ih =>
    intro y f hk h1 h2 hf hC hn H locs hP hD hS ls hl kk
    refine lv_iload hx hb dJ13_getChars_11360_86 (lv_at hl 0 rfl) ?_
    refine lv_bipush (v := (-100 : Int32)) hx hb dJ13_getChars_11360_88 qb_m100 ?_
    refine lv_icmp_gt (tgt := 143) hx hb dJ13_getChars_11360_90 (by decide) (fun c_1 => ?_) (fun c_1 => ?_)
    · exact kk k y f hk h1 h2 hf hC hn c_1 H locs hP hD hS ls (lv_sub hl [0, 1, 2, 3] rfl)
    · have gk := gc2 h1 h2 c_1
      refine lv_iload hx hb dJ13_getChars_11360_93 (lv_at hl 0 rfl) ?_
      refine lv_bipush (v := (100 : Int32)) hx hb dJ13_getChars_11360_95 qb_100 ?_
      refine lv_idiv hx hb dJ13_getChars_11360_97 (by decide) ?_
      refine lv_istore (lv' := [(9, .int (y / (100 : Int32))), (10, .int y), (3, .ref v), (7, .int (nI (k + d))), (8, .int g)]) hx hb dJ13_getChars_11360_98 hl (Nat.le_of_ble_eq_true rfl) rfl (fun ls hl => ?_)
      refine lv_iload hx hb dJ13_getChars_11360_100 (lv_at hl 0 rfl) ?_
      refine lv_bipush (v := (100 : Int32)) hx hb dJ13_getChars_11360_102 qb_100 ?_
      refine lv_imul hx hb dJ13_getChars_11360_104 ?_
      refine lv_iload hx hb dJ13_getChars_11360_105 (lv_at hl 1 rfl) ?_
      refine lv_isub hx hb dJ13_getChars_11360_107 ?_
      refine lv_istore (lv' := [(6, .int (((y / (100 : Int32)) * (100 : Int32)) - y)), (9, .int (y / (100 : Int32))), (10, .int y), (3, .ref v), (7, .int (nI (k + d))), (8, .int g)]) hx hb dJ13_getChars_11360_108 hl (Nat.le_of_ble_eq_true rfl) rfl (fun ls hl => ?_)
      refine lv_iload hx hb dJ13_getChars_11360_110 (lv_at hl 1 rfl) ?_
      refine lv_istore (lv' := [(10, .int (y / (100 : Int32))), (6, .int (((y / (100 : Int32)) * (100 : Int32)) - y)), (9, .int (y / (100 : Int32))), (3, .ref v), (7, .int (nI (k + d))), (8, .int g)]) hx hb dJ13_getChars_11360_112 hl (Nat.le_of_ble_eq_true rfl) rfl (fun ls hl => ?_)
      refine lv_aload_n hx hb dJ13_getChars_11360_114 rfl (lv_at hl 3 rfl) ?_
      refine lv_iinc (v := (nI ((k + d) - 1))) (lv' := [(7, .int (nI ((k + d) - 1))), (10, .int (y / (100 : Int32))), (6, .int (((y / (100 : Int32)) * (100 : Int32)) - y)), (9, .int (y / (100 : Int32))), (3, .ref v), (8, .int g)]) hx hb dJ13_getChars_11360_115 hl (k := 4) rfl (nI_dec (by omega)) (Nat.le_of_ble_eq_true rfl) rfl (fun ls hl => ?_)
      refine lv_iload hx hb dJ13_getChars_11360_118 (lv_at hl 0 rfl) ?_
      refine va_gets hx hb hE.2.2.2.2.2.2.2.1 (hS.wide hAB) hown (hw _ bw1530) (fun _ h9 => h9) dJ13_getChars_11360_120 ?_
      refine lv_iload hx hb dJ13_getChars_11360_123 (lv_at hl 2 rfl) ?_
      refine va_tb hx hb hE.2.2.2.2.2.2.2.2.1 (hS.wide hAB) gk.2.2.2 rfl dJ13_getChars_11360_125 ?_
      refine va_bast (tys := gT G) hx hb hE.K hP hD hS 0 2 rfl rfl (vp_in_nI (by omega) (by omega)) dJ13_getChars_11360_126 (fun H locs hP hD hS => ?_)
      have hP : va_P (gD G) vwCl [(v, .inl (gC G 2, n, .inl (upd f (nI ((k + d) - 1)).toNatClampNeg (vp_nar .byte (tD1 (((y / (100 : Int32)) * (100 : Int32)) - y).toNatClampNeg)))))] H := hP
      have hD : va_D A [(v, .inl (gC G 2, n, .inl (upd f (nI ((k + d) - 1)).toNatClampNeg (vp_nar .byte (tD1 (((y / (100 : Int32)) * (100 : Int32)) - y).toNatClampNeg)))))] := hD
      refine lv_aload_n hx hb dJ13_getChars_11360_127 rfl (lv_at hl 4 rfl) ?_
      refine lv_iinc (v := (nI (((k + d) - 1) - 1))) (lv' := [(7, .int (nI (((k + d) - 1) - 1))), (10, .int (y / (100 : Int32))), (6, .int (((y / (100 : Int32)) * (100 : Int32)) - y)), (9, .int (y / (100 : Int32))), (3, .ref v), (8, .int g)]) hx hb dJ13_getChars_11360_128 hl (k := 0) rfl (nI_dec (by omega)) (Nat.le_of_ble_eq_true rfl) rfl (fun ls hl => ?_)
      refine lv_iload hx hb dJ13_getChars_11360_131 (lv_at hl 0 rfl) ?_
      refine va_gets hx hb hE.2.2.2.2.2.2.2.2.2.1 (hS.wide hAB) hown (hw _ bw1531) (fun _ h9 => h9) dJ13_getChars_11360_133 ?_
      refine lv_iload hx hb dJ13_getChars_11360_136 (lv_at hl 2 rfl) ?_
      refine va_tb hx hb hE.2.2.2.2.2.2.2.2.2.2.1 (hS.wide hAB) gk.2.2.2 rfl dJ13_getChars_11360_138 ?_
      refine va_bast (tys := gT G) hx hb hE.K hP hD hS 0 2 rfl rfl (vp_in_nI (by omega) (by omega)) dJ13_getChars_11360_139 (fun H locs hP hD hS => ?_)
      have hP : va_P (gD G) vwCl [(v, .inl (gC G 2, n, .inl (upd (upd f (nI ((k + d) - 1)).toNatClampNeg (vp_nar .byte (tD1 (((y / (100 : Int32)) * (100 : Int32)) - y).toNatClampNeg))) (nI (((k + d) - 1) - 1)).toNatClampNeg (vp_nar .byte (tD10 (((y / (100 : Int32)) * (100 : Int32)) - y).toNatClampNeg)))))] H := hP
      have hD : va_D A [(v, .inl (gC G 2, n, .inl (upd (upd f (nI ((k + d) - 1)).toNatClampNeg (vp_nar .byte (tD1 (((y / (100 : Int32)) * (100 : Int32)) - y).toNatClampNeg))) (nI (((k + d) - 1) - 1)).toNatClampNeg (vp_nar .byte (tD10 (((y / (100 : Int32)) * (100 : Int32)) - y).toNatClampNeg)))))] := hD
      refine lv_goto (tgt := 86) hx hb dJ13_getChars_11360_140 (by decide) ?_
      have ek : k + d - 1 - 1 = (k - 2) + d := by omega
      rw [ek] at hl
      exact ih (k - 2) (by omega) (y / (100 : Int32)) _ (by omega) gk.2.1 gk.2.2.1 (sb_fitU (sb_fitU hf (fit_nar _)) (fit_nar _)) (gcs2 hC gk.1 h2 (by omega)) (by omega) H locs hP hD hS ls (lv_sub hl [1, 4, 0, 5] rfl) kk

set_option maxRecDepth 100000 in
set_option maxHeartbeats 4000000 in
theorem s_getChars_n (l : Launch) (G : GT) (x : Int64) (v n k : Nat) (f : Nat → Int32) (hn9 : n < 35) (hk1 : 1 ≤ k) (hb9 : (-(x).toInt).toNat < 10 ^ k) (hb8 : (x).toInt ≤ 0) (hf : sb_Fit f) (hn : k + 1 ≤ n) (N K : Nat) (hKk : k = K) (hNw : (-(x).toInt).toNat = N) (hKN : K = 1 ∨ 10 ^ (K - 1) ≤ N) (hx0 : ¬ 0 ≤ (lg_cmp x (0 : Int64))) : WE l G yJ13_getChars_11360 cJ13_getChars_11360 11 (some .int) 2 0 0 [.long x, .int (nI (k + 1)), .ref v] [(v, .inl (gC G 2, n, .inl f))] (fun r wd => ∃ (i : Int32) (f1 : Nat → Int32), r = some (.int i) ∧ wd = [(v, .inl (gC G 2, n, .inl f1))] ∧ TX (tT N K 1) (K + 1) f1) := by
  refine WE.ofW (own := RJ13) rfl (plainFor_of_name pnN_RJ13) (Nat.le_of_ble_eq_true rfl) ?_
  intro p e s m below meth c A C hr hk hnm hE hP hD hA hAB hS ls hl
  have hx := C.1
  have hb := C.2.1
  have hml := C.2.2.1
  have hown := C.2.2.2.1
  have hw := C.2.2.2.2
  have hl : lv_has ls 11 [(0, .long x), (2, .int (nI (k + 1))), (3, .ref v)] := hl
  refine lv_iload_n hx hb dJ13_getChars_11360_0 rfl (lv_at hl 1 rfl) ?_
  refine lv_istore (lv' := [(7, .int (nI (k + 1))), (0, .long x), (2, .int (nI (k + 1))), (3, .ref v)]) hx hb dJ13_getChars_11360_1 hl (Nat.le_of_ble_eq_true rfl) rfl (fun ls hl => ?_)
  refine lv_lload_n hx hb dJ13_getChars_11360_3 rfl (lv_at hl 1 rfl) ?_
  refine lv_lconst (v := (0 : Int64)) hx hb dJ13_getChars_11360_4 ql_0 ?_
  refine W.lcmp hx hb dJ13_getChars_11360_5 ?_
  refine lv_if_ge (tgt := 13) hx hb dJ13_getChars_11360_6 (by decide) (fun c_x => absurd c_x hx0) (fun _ => ?_)
  refine lv_iconst (v := (1 : Int32)) hx hb dJ13_getChars_11360_9 qi_1 ?_
  refine lv_goto (tgt := 14) hx hb dJ13_getChars_11360_10 (by decide) ?_
  refine lv_istore (lv' := [(8, .int (1 : Int32)), (7, .int (nI (k + 1))), (0, .long x), (2, .int (nI (k + 1))), (3, .ref v)]) hx hb dJ13_getChars_11360_14 hl (Nat.le_of_ble_eq_true rfl) rfl (fun ls hl => ?_)
  refine lv_iload hx hb dJ13_getChars_11360_16 (lv_at hl 0 rfl) ?_
  refine lv_if_ne (tgt := 24) hx hb dJ13_getChars_11360_18 (by decide) (fun _ => ?_) (fun c_x => absurd c_x (by decide))
  refine gLoop1 C hE hA hAB (d := 1) hn9 (by decide) k x f hk1 hb9 hb8 hf (GC.start hKk hNw) hn _ _ hP hD hS ls (lv_sub hl [2, 4, 1, 0] rfl) (fun k y f hk5 h1 h2 hf hC hn hc H locs hP hD hS ls hl => ?_)
  refine lv_lload_n hx hb dJ13_getChars_11360_82 rfl (lv_at hl 0 rfl) ?_
  refine lv_l2i (v := (y.toInt32)) hx hb dJ13_getChars_11360_83 (by first | rfl | decide) ?_
  refine lv_istore (lv' := [(10, .int (y.toInt32)), (0, .long y), (3, .ref v), (7, .int (nI (k + 1))), (8, .int (1 : Int32))]) hx hb dJ13_getChars_11360_84 hl (Nat.le_of_ble_eq_true rfl) rfl (fun ls hl => ?_)
  have e5 := gc5 h2 hc
  refine gLoop2 C hE hA hAB (d := 1) hn9 (by decide) k _ f hk5 (by rw [e5]; exact h1) (by rw [e5]; exact h2) hf (by rw [e5]; exact hC) hn _ _ hP hD hS ls (lv_sub hl [0, 2, 3, 4] rfl) (fun k y f hk5 h1 h2 hf hC hn hc H locs hP hD hS ls hl => ?_)
  refine lv_aload_n hx hb dJ13_getChars_11360_143 rfl (lv_at hl 1 rfl) ?_
  refine lv_iinc (v := (nI ((k + 1) - 1))) (lv' := [(7, .int (nI ((k + 1) - 1))), (10, .int y), (3, .ref v), (8, .int (1 : Int32))]) hx hb dJ13_getChars_11360_144 hl (k := 2) rfl (nI_dec (by omega)) (Nat.le_of_ble_eq_true rfl) rfl (fun ls hl => ?_)
  refine lv_iload hx hb dJ13_getChars_11360_147 (lv_at hl 0 rfl) ?_
  refine va_gets hx hb hE.2.2.2.2.2.2.2.1 (hS.wide hAB) hown (hw _ bw1530) (fun _ h9 => h9) dJ13_getChars_11360_149 ?_
  refine lv_iload hx hb dJ13_getChars_11360_152 (lv_at hl 1 rfl) ?_
  refine lv_ineg hx hb dJ13_getChars_11360_154 ?_
  refine va_tb hx hb hE.2.2.2.2.2.2.2.2.1 (hS.wide hAB) (gc3 h2 hc) rfl dJ13_getChars_11360_155 ?_
  refine va_bast (tys := gT G) hx hb hE.K hP hD hS 0 2 rfl rfl (vp_in_nI (by omega) (by omega)) dJ13_getChars_11360_156 (fun H locs hP hD hS => ?_)
  have hP : va_P (gD G) vwCl [(v, .inl (gC G 2, n, .inl (upd f (nI ((k + 1) - 1)).toNatClampNeg (vp_nar .byte (tD1 (-y).toNatClampNeg)))))] H := hP
  have hD : va_D A [(v, .inl (gC G 2, n, .inl (upd f (nI ((k + 1) - 1)).toNatClampNeg (vp_nar .byte (tD1 (-y).toNatClampNeg)))))] := hD
  refine lv_iload hx hb dJ13_getChars_11360_157 (lv_at hl 1 rfl) ?_
  refine lv_bipush (v := (-9 : Int32)) hx hb dJ13_getChars_11360_159 qb_m9 ?_
  refine lv_icmp_ge (tgt := 178) hx hb dJ13_getChars_11360_161 (by decide) (fun c_1 => ?_) (fun c_1 => ?_)
  · refine lv_iload hx hb dJ13_getChars_11360_178 (lv_at hl 3 rfl) ?_
    refine lv_if_eq (tgt := 192) hx hb dJ13_getChars_11360_180 (by decide) (fun c_x => absurd c_x (by decide)) (fun _ => ?_)
    refine lv_aload_n hx hb dJ13_getChars_11360_183 rfl (lv_at hl 2 rfl) ?_
    refine lv_iinc (v := (nI (((k + 1) - 1) - 1))) (lv' := [(7, .int (nI (((k + 1) - 1) - 1))), (10, .int y), (3, .ref v), (8, .int (1 : Int32))]) hx hb dJ13_getChars_11360_184 hl (k := 0) rfl (nI_dec (by omega)) (Nat.le_of_ble_eq_true rfl) rfl (fun ls hl => ?_)
    refine lv_iload hx hb dJ13_getChars_11360_187 (lv_at hl 0 rfl) ?_
    refine lv_bipush (v := (45 : Int32)) hx hb dJ13_getChars_11360_189 qb_45 ?_
    refine va_bast (tys := gT G) hx hb hE.K hP hD hS 0 2 rfl rfl (vp_in_nI (by omega) (by omega)) dJ13_getChars_11360_191 (fun H locs hP hD hS => ?_)
    have hP : va_P (gD G) vwCl [(v, .inl (gC G 2, n, .inl (upd (upd f (nI ((k + 1) - 1)).toNatClampNeg (vp_nar .byte (tD1 (-y).toNatClampNeg))) (nI (((k + 1) - 1) - 1)).toNatClampNeg (vp_nar .byte (45 : Int32)))))] H := hP
    have hD : va_D A [(v, .inl (gC G 2, n, .inl (upd (upd f (nI ((k + 1) - 1)).toNatClampNeg (vp_nar .byte (tD1 (-y).toNatClampNeg))) (nI (((k + 1) - 1) - 1)).toNatClampNeg (vp_nar .byte (45 : Int32)))))] := hD
    refine lv_iload hx hb dJ13_getChars_11360_192 (lv_at hl 0 rfl) ?_
    exact weN hx hb hr hk ⟨_, _, rfl, rfl, (gcf_n1 hC hKN hk5 h2 hc c_1 hf)⟩ hP hD hS (Nat.le_of_ble_eq_true rfl) (Nat.le_of_ble_eq_true rfl) dJ13_getChars_11360_194
  · refine lv_aload_n hx hb dJ13_getChars_11360_164 rfl (lv_at hl 2 rfl) ?_
    refine lv_iinc (v := (nI (((k + 1) - 1) - 1))) (lv' := [(7, .int (nI (((k + 1) - 1) - 1))), (10, .int y), (3, .ref v), (8, .int (1 : Int32))]) hx hb dJ13_getChars_11360_165 hl (k := 0) rfl (nI_dec (by have := gc4 h1 c_1; omega)) (Nat.le_of_ble_eq_true rfl) rfl (fun ls hl => ?_)
    refine lv_iload hx hb dJ13_getChars_11360_168 (lv_at hl 0 rfl) ?_
    refine va_gets hx hb hE.2.2.2.2.2.2.2.2.2.1 (hS.wide hAB) hown (hw _ bw1531) (fun _ h9 => h9) dJ13_getChars_11360_170 ?_
    refine lv_iload hx hb dJ13_getChars_11360_173 (lv_at hl 1 rfl) ?_
    refine lv_ineg hx hb dJ13_getChars_11360_175 ?_
    refine va_tb hx hb hE.2.2.2.2.2.2.2.2.2.2.1 (hS.wide hAB) (gc3 h2 hc) rfl dJ13_getChars_11360_176 ?_
    refine va_bast (tys := gT G) hx hb hE.K hP hD hS 0 2 rfl rfl (vp_in_nI (by have := gc4 h1 c_1; omega) (by omega)) dJ13_getChars_11360_177 (fun H locs hP hD hS => ?_)
    have hP : va_P (gD G) vwCl [(v, .inl (gC G 2, n, .inl (upd (upd f (nI ((k + 1) - 1)).toNatClampNeg (vp_nar .byte (tD1 (-y).toNatClampNeg))) (nI (((k + 1) - 1) - 1)).toNatClampNeg (vp_nar .byte (tD10 (-y).toNatClampNeg)))))] H := hP
    have hD : va_D A [(v, .inl (gC G 2, n, .inl (upd (upd f (nI ((k + 1) - 1)).toNatClampNeg (vp_nar .byte (tD1 (-y).toNatClampNeg))) (nI (((k + 1) - 1) - 1)).toNatClampNeg (vp_nar .byte (tD10 (-y).toNatClampNeg)))))] := hD
    refine lv_iload hx hb dJ13_getChars_11360_178 (lv_at hl 3 rfl) ?_
    refine lv_if_eq (tgt := 192) hx hb dJ13_getChars_11360_180 (by decide) (fun c_x => absurd c_x (by decide)) (fun _ => ?_)
    refine lv_aload_n hx hb dJ13_getChars_11360_183 rfl (lv_at hl 2 rfl) ?_
    refine lv_iinc (v := (nI ((((k + 1) - 1) - 1) - 1))) (lv' := [(7, .int (nI ((((k + 1) - 1) - 1) - 1))), (10, .int y), (3, .ref v), (8, .int (1 : Int32))]) hx hb dJ13_getChars_11360_184 hl (k := 0) rfl (nI_dec (by have := gc4 h1 c_1; omega)) (Nat.le_of_ble_eq_true rfl) rfl (fun ls hl => ?_)
    refine lv_iload hx hb dJ13_getChars_11360_187 (lv_at hl 0 rfl) ?_
    refine lv_bipush (v := (45 : Int32)) hx hb dJ13_getChars_11360_189 qb_45 ?_
    refine va_bast (tys := gT G) hx hb hE.K hP hD hS 0 2 rfl rfl (vp_in_nI (by have := gc4 h1 c_1; omega) (by omega)) dJ13_getChars_11360_191 (fun H locs hP hD hS => ?_)
    have hP : va_P (gD G) vwCl [(v, .inl (gC G 2, n, .inl (upd (upd (upd f (nI ((k + 1) - 1)).toNatClampNeg (vp_nar .byte (tD1 (-y).toNatClampNeg))) (nI (((k + 1) - 1) - 1)).toNatClampNeg (vp_nar .byte (tD10 (-y).toNatClampNeg))) (nI ((((k + 1) - 1) - 1) - 1)).toNatClampNeg (vp_nar .byte (45 : Int32)))))] H := hP
    have hD : va_D A [(v, .inl (gC G 2, n, .inl (upd (upd (upd f (nI ((k + 1) - 1)).toNatClampNeg (vp_nar .byte (tD1 (-y).toNatClampNeg))) (nI (((k + 1) - 1) - 1)).toNatClampNeg (vp_nar .byte (tD10 (-y).toNatClampNeg))) (nI ((((k + 1) - 1) - 1) - 1)).toNatClampNeg (vp_nar .byte (45 : Int32)))))] := hD
    refine lv_iload hx hb dJ13_getChars_11360_192 (lv_at hl 0 rfl) ?_
    exact weN hx hb hr hk ⟨_, _, rfl, rfl, (gcf_n2 hC hKN hk5 h1 h2 hc c_1 hf)⟩ hP hD hS (Nat.le_of_ble_eq_true rfl) (Nat.le_of_ble_eq_true rfl) dJ13_getChars_11360_194

set_option maxRecDepth 100000 in
set_option maxHeartbeats 4000000 in
theorem s_getChars_p (l : Launch) (G : GT) (x : Int64) (v n k : Nat) (f : Nat → Int32) (hn9 : n < 35) (hk1 : 1 ≤ k) (hb9 : (-((-x)).toInt).toNat < 10 ^ k) (hb8 : ((-x)).toInt ≤ 0) (hf : sb_Fit f) (hn : k + 0 ≤ n) (N K : Nat) (hKk : k = K) (hNw : (-((-x)).toInt).toNat = N) (hKN : K = 1 ∨ 10 ^ (K - 1) ≤ N) (hx0 : 0 ≤ (lg_cmp x (0 : Int64))) : WE l G yJ13_getChars_11360 cJ13_getChars_11360 11 (some .int) 2 0 0 [.long x, .int (nI (k + 0)), .ref v] [(v, .inl (gC G 2, n, .inl f))] (fun r wd => ∃ (i : Int32) (f1 : Nat → Int32), r = some (.int i) ∧ wd = [(v, .inl (gC G 2, n, .inl f1))] ∧ TX (tT N K 0) (K + 0) f1) := by
  refine WE.ofW (own := RJ13) rfl (plainFor_of_name pnN_RJ13) (Nat.le_of_ble_eq_true rfl) ?_
  intro p e s m below meth c A C hr hk hnm hE hP hD hA hAB hS ls hl
  have hx := C.1
  have hb := C.2.1
  have hml := C.2.2.1
  have hown := C.2.2.2.1
  have hw := C.2.2.2.2
  have hl : lv_has ls 11 [(0, .long x), (2, .int (nI (k + 0))), (3, .ref v)] := hl
  refine lv_iload_n hx hb dJ13_getChars_11360_0 rfl (lv_at hl 1 rfl) ?_
  refine lv_istore (lv' := [(7, .int (nI (k + 0))), (0, .long x), (2, .int (nI (k + 0))), (3, .ref v)]) hx hb dJ13_getChars_11360_1 hl (Nat.le_of_ble_eq_true rfl) rfl (fun ls hl => ?_)
  refine lv_lload_n hx hb dJ13_getChars_11360_3 rfl (lv_at hl 1 rfl) ?_
  refine lv_lconst (v := (0 : Int64)) hx hb dJ13_getChars_11360_4 ql_0 ?_
  refine W.lcmp hx hb dJ13_getChars_11360_5 ?_
  refine lv_if_ge (tgt := 13) hx hb dJ13_getChars_11360_6 (by decide) (fun _ => ?_) (fun c_x => absurd hx0 c_x)
  refine lv_iconst (v := (0 : Int32)) hx hb dJ13_getChars_11360_13 qi_0 ?_
  refine lv_istore (lv' := [(8, .int (0 : Int32)), (7, .int (nI (k + 0))), (0, .long x), (2, .int (nI (k + 0))), (3, .ref v)]) hx hb dJ13_getChars_11360_14 hl (Nat.le_of_ble_eq_true rfl) rfl (fun ls hl => ?_)
  refine lv_iload hx hb dJ13_getChars_11360_16 (lv_at hl 0 rfl) ?_
  refine lv_if_ne (tgt := 24) hx hb dJ13_getChars_11360_18 (by decide) (fun c_x => absurd (show (0 : Int32) = 0 from by decide) c_x) (fun _ => ?_)
  refine lv_lload_n hx hb dJ13_getChars_11360_21 rfl (lv_at hl 2 rfl) ?_
  refine lv_lneg hx hb dJ13_getChars_11360_22 ?_
  refine lv_lstore_n (lv' := [(0, .long (-x)), (8, .int (0 : Int32)), (7, .int (nI (k + 0))), (2, .int (nI (k + 0))), (3, .ref v)]) hx hb dJ13_getChars_11360_23 rfl hl (Nat.le_of_ble_eq_true rfl) rfl (fun ls hl => ?_)
  refine gLoop1 C hE hA hAB (d := 0) hn9 (by decide) k (-x) f hk1 hb9 hb8 hf (GC.start hKk hNw) hn _ _ hP hD hS ls (lv_sub hl [0, 4, 2, 1] rfl) (fun k y f hk5 h1 h2 hf hC hn hc H locs hP hD hS ls hl => ?_)
  refine lv_lload_n hx hb dJ13_getChars_11360_82 rfl (lv_at hl 0 rfl) ?_
  refine lv_l2i (v := (y.toInt32)) hx hb dJ13_getChars_11360_83 (by first | rfl | decide) ?_
  refine lv_istore (lv' := [(10, .int (y.toInt32)), (0, .long y), (3, .ref v), (7, .int (nI (k + 0))), (8, .int (0 : Int32))]) hx hb dJ13_getChars_11360_84 hl (Nat.le_of_ble_eq_true rfl) rfl (fun ls hl => ?_)
  have e5 := gc5 h2 hc
  refine gLoop2 C hE hA hAB (d := 0) hn9 (by decide) k _ f hk5 (by rw [e5]; exact h1) (by rw [e5]; exact h2) hf (by rw [e5]; exact hC) hn _ _ hP hD hS ls (lv_sub hl [0, 2, 3, 4] rfl) (fun k y f hk5 h1 h2 hf hC hn hc H locs hP hD hS ls hl => ?_)
  refine lv_aload_n hx hb dJ13_getChars_11360_143 rfl (lv_at hl 1 rfl) ?_
  refine lv_iinc (v := (nI ((k + 0) - 1))) (lv' := [(7, .int (nI ((k + 0) - 1))), (10, .int y), (3, .ref v), (8, .int (0 : Int32))]) hx hb dJ13_getChars_11360_144 hl (k := 2) rfl (nI_dec (by omega)) (Nat.le_of_ble_eq_true rfl) rfl (fun ls hl => ?_)
  refine lv_iload hx hb dJ13_getChars_11360_147 (lv_at hl 0 rfl) ?_
  refine va_gets hx hb hE.2.2.2.2.2.2.2.1 (hS.wide hAB) hown (hw _ bw1530) (fun _ h9 => h9) dJ13_getChars_11360_149 ?_
  refine lv_iload hx hb dJ13_getChars_11360_152 (lv_at hl 1 rfl) ?_
  refine lv_ineg hx hb dJ13_getChars_11360_154 ?_
  refine va_tb hx hb hE.2.2.2.2.2.2.2.2.1 (hS.wide hAB) (gc3 h2 hc) rfl dJ13_getChars_11360_155 ?_
  refine va_bast (tys := gT G) hx hb hE.K hP hD hS 0 2 rfl rfl (vp_in_nI (by omega) (by omega)) dJ13_getChars_11360_156 (fun H locs hP hD hS => ?_)
  have hP : va_P (gD G) vwCl [(v, .inl (gC G 2, n, .inl (upd f (nI ((k + 0) - 1)).toNatClampNeg (vp_nar .byte (tD1 (-y).toNatClampNeg)))))] H := hP
  have hD : va_D A [(v, .inl (gC G 2, n, .inl (upd f (nI ((k + 0) - 1)).toNatClampNeg (vp_nar .byte (tD1 (-y).toNatClampNeg)))))] := hD
  refine lv_iload hx hb dJ13_getChars_11360_157 (lv_at hl 1 rfl) ?_
  refine lv_bipush (v := (-9 : Int32)) hx hb dJ13_getChars_11360_159 qb_m9 ?_
  refine lv_icmp_ge (tgt := 178) hx hb dJ13_getChars_11360_161 (by decide) (fun c_1 => ?_) (fun c_1 => ?_)
  · refine lv_iload hx hb dJ13_getChars_11360_178 (lv_at hl 3 rfl) ?_
    refine lv_if_eq (tgt := 192) hx hb dJ13_getChars_11360_180 (by decide) (fun _ => ?_) (fun c_x => absurd (show (0 : Int32) = 0 from by decide) c_x)
    refine lv_iload hx hb dJ13_getChars_11360_192 (lv_at hl 0 rfl) ?_
    exact weN hx hb hr hk ⟨_, _, rfl, rfl, (gcf_p1 hC hKN hk5 h2 hc c_1 hf)⟩ hP hD hS (Nat.le_of_ble_eq_true rfl) (Nat.le_of_ble_eq_true rfl) dJ13_getChars_11360_194
  · refine lv_aload_n hx hb dJ13_getChars_11360_164 rfl (lv_at hl 2 rfl) ?_
    refine lv_iinc (v := (nI (((k + 0) - 1) - 1))) (lv' := [(7, .int (nI (((k + 0) - 1) - 1))), (10, .int y), (3, .ref v), (8, .int (0 : Int32))]) hx hb dJ13_getChars_11360_165 hl (k := 0) rfl (nI_dec (by have := gc4 h1 c_1; omega)) (Nat.le_of_ble_eq_true rfl) rfl (fun ls hl => ?_)
    refine lv_iload hx hb dJ13_getChars_11360_168 (lv_at hl 0 rfl) ?_
    refine va_gets hx hb hE.2.2.2.2.2.2.2.2.2.1 (hS.wide hAB) hown (hw _ bw1531) (fun _ h9 => h9) dJ13_getChars_11360_170 ?_
    refine lv_iload hx hb dJ13_getChars_11360_173 (lv_at hl 1 rfl) ?_
    refine lv_ineg hx hb dJ13_getChars_11360_175 ?_
    refine va_tb hx hb hE.2.2.2.2.2.2.2.2.2.2.1 (hS.wide hAB) (gc3 h2 hc) rfl dJ13_getChars_11360_176 ?_
    refine va_bast (tys := gT G) hx hb hE.K hP hD hS 0 2 rfl rfl (vp_in_nI (by have := gc4 h1 c_1; omega) (by omega)) dJ13_getChars_11360_177 (fun H locs hP hD hS => ?_)
    have hP : va_P (gD G) vwCl [(v, .inl (gC G 2, n, .inl (upd (upd f (nI ((k + 0) - 1)).toNatClampNeg (vp_nar .byte (tD1 (-y).toNatClampNeg))) (nI (((k + 0) - 1) - 1)).toNatClampNeg (vp_nar .byte (tD10 (-y).toNatClampNeg)))))] H := hP
    have hD : va_D A [(v, .inl (gC G 2, n, .inl (upd (upd f (nI ((k + 0) - 1)).toNatClampNeg (vp_nar .byte (tD1 (-y).toNatClampNeg))) (nI (((k + 0) - 1) - 1)).toNatClampNeg (vp_nar .byte (tD10 (-y).toNatClampNeg)))))] := hD
    refine lv_iload hx hb dJ13_getChars_11360_178 (lv_at hl 3 rfl) ?_
    refine lv_if_eq (tgt := 192) hx hb dJ13_getChars_11360_180 (by decide) (fun _ => ?_) (fun c_x => absurd (show (0 : Int32) = 0 from by decide) c_x)
    refine lv_iload hx hb dJ13_getChars_11360_192 (lv_at hl 0 rfl) ?_
    exact weN hx hb hr hk ⟨_, _, rfl, rfl, (gcf_p2 hC hKN hk5 h1 h2 hc c_1 hf)⟩ hP hD hS (Nat.le_of_ble_eq_true rfl) (Nat.le_of_ble_eq_true rfl) dJ13_getChars_11360_194

theorem s_getChars (l : Launch) (G : GT) (x : Int64) (v n k d : Nat) (f : Nat → Int32) (hn9 : n < 35) (hs : SS x k d) (hf : sb_Fit f) (hn : k + d ≤ n) : WE l G yJ13_getChars_11360 cJ13_getChars_11360 11 (some .int) 2 0 0 [.long x, .int (nI (k + d)), .ref v] [(v, .inl (gC G 2, n, .inl f))] (fun r wd => ∃ (i : Int32) (f1 : Nat → Int32), r = some (.int i) ∧ wd = [(v, .inl (gC G 2, n, .inl f1))] ∧ TX (tT x.toInt.natAbs k d) (k + d) f1) := by
  rcases hs with ⟨h1, h2, h3, h4, h5, h6⟩
  rcases h3 with ⟨g1, rfl⟩ | ⟨g1, rfl⟩
  · exact s_getChars_n l G x v n k f hn9 h1 (by omega) (by omega) hf hn x.toInt.natAbs k rfl (by omega) h5 (fun z => absurd (lgc_ge.mp z) (by rw [show (0 : Int64).toInt = 0 from by decide]; omega))
  · have ey := neg_toInt g1
    exact s_getChars_p l G x v n k f hn9 h1 (by rw [ey]; omega) (by rw [ey]; omega) hf hn x.toInt.natAbs k rfl (by rw [ey]; omega) h5 (lgc_ge.mpr (by rw [show (0 : Int64).toInt = 0 from by decide]; exact g1))

theorem SS.le {x : Int64} {k d : Nat} (h : SS x k d) : k + d ≤ 34 := by
  have h1 := h.d1
  have h2 := h.2.1
  omega
theorem SS.add {x : Int64} {k d : Nat} (h : SS x k d) : nI 0 + fJ13_stringSize_95d88 x = nI (k + d) := by
  rw [h.2.2.2.2.2, nI_add, Nat.zero_add]

set_option maxRecDepth 100000 in
set_option maxHeartbeats 4000000 in
theorem s_appL5 (l : Launch) (G : GT) (o v w9 k d : Nat) (f : Nat → Int32) (x : Int64) (hm : mOK w9) (hf : sb_Fit f) (hs : SS x k d) : WE l G yJ5_append_66267 cJ5_append_66267 5 (some (.object "java/lang/AbstractStringBuilder")) 5 1 34 [.ref o, .long x] [(o, .inr (1, [.ref v, .int 0, .int 0, .int (nI 0)])), (v, .inl (gC G 2, w9, .inl f))] (fun r wd => r = some (.ref o) ∧ BD G o (k + d) (tT x.toInt.natAbs k d) wd) := by
  refine WE.ofW (own := RJ5) rfl (plainFor_of_name pnN_RJ5) (Nat.le_of_ble_eq_true rfl) ?_
  intro p e s m below meth c A C hr hk hnm hE hP hD hA hAB hS ls hl
  have hx := C.1
  have hb := C.2.1
  have hml := C.2.2.1
  have hown := C.2.2.2.1
  have hw := C.2.2.2.2
  have hl : lv_has ls 5 [(0, .ref o), (1, .long x)] := hl
  refine lv_aload_n hx hb dJ5_append_66267_0 rfl (lv_at hl 0 rfl) ?_
  refine va_get (D := gD G) (cl := vwCl) (tys := gT G) (ci := 1) (v := .int (nI 0)) (C := RJ4) (T := TJ4) (N := 4) hx hb hw inB_J4 hown hE.K hP 0 rfl rfl 3 (by decide) (hw _ bw798) (fun _ h9 => h9) rfl dJ5_append_66267_1 ?_
  refine lv_istore_n (lv' := [(3, .int (nI 0)), (0, .ref o), (1, .long x)]) hx hb dJ5_append_66267_4 rfl hl (Nat.le_of_ble_eq_true rfl) rfl (fun ls hl => ?_)
  refine lv_iload_n hx hb dJ5_append_66267_5 rfl (lv_at hl 0 rfl) ?_
  refine lv_lload_n hx hb dJ5_append_66267_6 rfl (lv_at hl 2 rfl) ?_
  refine rcSf (st1 := [.int (fJ13_stringSize_95d88 x), .int (nI 0)]) (as := [.long x]) (rest := [.int (nI 0)]) C (c_J13_stringSize_95d88 l G x) F_J13_stringSize_95d88 rfl bw1520 bw1521 (hE.S hS hAB) vpn hl.1 dJ5_append_66267_7 ⟨Nat.le_of_ble_eq_true rfl, Nat.le_of_ble_eq_true rfl⟩ rfl (Nat.le_of_ble_eq_true rfl) ⟨Nat.le_of_ble_eq_true rfl, Nat.le_of_ble_eq_true rfl⟩ rfl ?_
  refine lv_iadd hx hb dJ5_append_66267_10 ?_
  refine k_foldi (y := (nI (k + d))) hs.add ?_
  refine lv_istore (lv' := [(4, .int (nI (k + d))), (3, .int (nI 0)), (0, .ref o), (1, .long x)]) hx hb dJ5_append_66267_11 hl (Nat.le_of_ble_eq_true rfl) rfl (fun ls hl => ?_)
  refine lv_aload_n hx hb dJ5_append_66267_13 rfl (lv_at hl 2 rfl) ?_
  refine lv_iload hx hb dJ5_append_66267_14 (lv_at hl 0 rfl) ?_
  have hP9 : va_P (gD G) vwCl ([] ++ [(o, .inr (1, [.ref v, .int 0, .int 0, .int (nI 0)])), (v, .inl (gC G 2, w9, .inl f))]) _ := hP
  have hD9 : va_D A ([] ++ [(o, .inr (1, [.ref v, .int 0, .int 0, .int (nI 0)])), (v, .inl (gC G 2, w9, .inl f))]) := hD
  refine weVf (wr := []) (wd := [(o, .inr (1, [.ref v, .int 0, .int 0, .int (nI 0)])), (v, .inl (gC G 2, w9, .inl f))]) (as := [.int (nI (k + d))]) (rest := []) (cl := RJ4) C (s_ensure l G o v w9 (nI 0) f (k + d) hm hs.le hf) F_J5_ensureCapacityInternal_d00df rfl bw819 bw821 (hw _ xs_ensureCapacityInternal) (hE.S hS hAB) hP9 hD9 hS hA hAB (rv1 hE.K hP (q0 := 0) rfl) hl.1 dJ5_append_66267_16 ⟨Nat.le_of_ble_eq_true rfl, Nat.le_of_ble_eq_true rfl⟩ rfl (Nat.le_of_ble_eq_true rfl) ⟨Nat.le_of_ble_eq_true rfl, Nat.le_of_ble_eq_true rfl⟩ (fun r9 wd9 H locs hp9 hP hD hS => ?_)
  obtain ⟨rfl, v9_16, m9_16, f9_16, rfl, hm9_16, hle9_16, hf9_16⟩ := hp9
  have hP : va_P (gD G) vwCl [(o, .inr (1, [.ref v9_16, .int 0, .int 0, .int (nI 0)])), (v9_16, .inl (gC G 2, m9_16, .inl f9_16))] H := hP
  have hD : va_D A [(o, .inr (1, [.ref v9_16, .int 0, .int 0, .int (nI 0)])), (v9_16, .inl (gC G 2, m9_16, .inl f9_16))] := hD
  refine W.eq (g2 := F0 m 19 ls []) rfl ?_
  refine lv_aload_n hx hb dJ5_append_66267_19 rfl (lv_at hl 2 rfl) ?_
  refine rcVf (st1 := [.int (1 : Int32)]) (as := []) (rest := []) (cl := RJ4) C (s_isLatin1 l G o v9_16 m9_16 0 (nI 0) f9_16) F_J5_isLatin1_aae02 rfl bw852 bw853 (hw _ bw855) (hE.S hS hAB) (show va_P (gD G) vwCl [(o, .inr (1, [.ref v9_16, .int 0, .int 0, .int (nI 0)])), (v9_16, .inl (gC G 2, m9_16, .inl f9_16))] _ from hP.sub [0, 1] rfl) (rv1 hE.K hP (q0 := 0) rfl) hl.1 dJ5_append_66267_20 ⟨Nat.le_of_ble_eq_true rfl, Nat.le_of_ble_eq_true rfl⟩ rfl (Nat.le_of_ble_eq_true rfl) ⟨Nat.le_of_ble_eq_true rfl, Nat.le_of_ble_eq_true rfl⟩ rfl ?_
  refine lv_if_eq (tgt := 40) hx hb dJ5_append_66267_23 (by decide) (fun c_x => absurd c_x (by decide)) (fun _ => ?_)
  refine lv_lload_n hx hb dJ5_append_66267_26 rfl (lv_at hl 3 rfl) ?_
  refine lv_iload hx hb dJ5_append_66267_27 (lv_at hl 0 rfl) ?_
  refine lv_aload_n hx hb dJ5_append_66267_29 rfl (lv_at hl 2 rfl) ?_
  refine va_get (D := gD G) (cl := vwCl) (tys := gT G) (ci := 1) (v := .ref v9_16) (C := RJ4) (T := TJ4) (N := 4) hx hb hw inB_J4 hown hE.K hP 0 rfl rfl 0 (by decide) (hw _ bw795) (fun _ h9 => h9) rfl dJ5_append_66267_30 ?_
  have hP9 : va_P (gD G) vwCl ([(o, .inr (1, [.ref v9_16, .int 0, .int 0, .int (nI 0)]))] ++ [(v9_16, .inl (gC G 2, m9_16, .inl f9_16))]) _ := hP
  have hD9 : va_D A ([(o, .inr (1, [.ref v9_16, .int 0, .int 0, .int (nI 0)]))] ++ [(v9_16, .inl (gC G 2, m9_16, .inl f9_16))]) := hD
  refine weS (wr := [(o, .inr (1, [.ref v9_16, .int 0, .int 0, .int (nI 0)]))]) (wd := [(v9_16, .inl (gC G 2, m9_16, .inl f9_16))]) (as := [.long x, .int (nI (k + d)), .ref v9_16]) (rest := []) C (s_getChars l G x v9_16 m9_16 k d f9_16 hm9_16.lt hs hf9_16.1 hle9_16) F_J13_getChars_11360 rfl bw1525 bw1526 (hE.S hS hAB) hP9 hD9 hS hA hAB hl.1 dJ5_append_66267_33 ⟨Nat.le_of_ble_eq_true rfl, Nat.le_of_ble_eq_true rfl⟩ rfl (Nat.le_of_ble_eq_true rfl) ⟨Nat.le_of_ble_eq_true rfl, Nat.le_of_ble_eq_true rfl⟩ (fun r9 wd9 H locs hp9 hP hD hS => ?_)
  obtain ⟨i9_33, f9_33, rfl, rfl, hf9_33⟩ := hp9
  have hP : va_P (gD G) vwCl [(o, .inr (1, [.ref v9_16, .int 0, .int 0, .int (nI 0)])), (v9_16, .inl (gC G 2, m9_16, .inl f9_33))] H := hP
  have hD : va_D A [(o, .inr (1, [.ref v9_16, .int 0, .int 0, .int (nI 0)])), (v9_16, .inl (gC G 2, m9_16, .inl f9_33))] := hD
  refine W.eq (g2 := F0 m 36 ls [.int i9_33]) rfl ?_
  refine lv_pop hx hb dJ5_append_66267_36 rfl ?_
  refine lv_goto (tgt := 52) hx hb dJ5_append_66267_37 (by decide) ?_
  refine lv_aload_n hx hb dJ5_append_66267_52 rfl (lv_at hl 2 rfl) ?_
  refine lv_iload hx hb dJ5_append_66267_53 (lv_at hl 0 rfl) ?_
  refine va_put (D := gD G) (cl := vwCl) (tys := gT G) (ci := 1) (v := .int (nI (k + d))) (ty := tyJ4 3) (C := RJ4) (T := TJ4) (N := 4) hx hb hw inB_J4 tyJ4 tyJ4_ok nmJ4 hown hE.K hP hD hS 0 rfl rfl 3 (by decide) (hw _ bw798) (fun _ h9 => h9) rfl (by first | decide +kernel | rfl) rfl rfl (Nat.le_of_ble_eq_true rfl) dJ5_append_66267_55 (fun H locs hP hD hS => ?_)
  have hP : va_P (gD G) vwCl [(o, .inr (1, [.ref v9_16, .int 0, .int 0, .int (nI (k + d))])), (v9_16, .inl (gC G 2, m9_16, .inl f9_33))] H := hP
  have hD : va_D A [(o, .inr (1, [.ref v9_16, .int 0, .int 0, .int (nI (k + d))])), (v9_16, .inl (gC G 2, m9_16, .inl f9_33))] := hD
  refine lv_aload_n hx hb dJ5_append_66267_58 rfl (lv_at hl 2 rfl) ?_
  exact weA hx hb hr (Or.inl ⟨_, rfl⟩) hk ⟨rfl, v9_16, m9_16, _, rfl, hm9_16, hle9_16, hf9_33⟩ hP hD hS (Nat.le_of_ble_eq_true rfl) (Nat.le_of_ble_eq_true rfl) dJ5_append_66267_59

set_option maxRecDepth 100000 in
set_option maxHeartbeats 4000000 in
theorem s_appL (l : Launch) (G : GT) (o v w9 k d : Nat) (f : Nat → Int32) (x : Int64) (hm : mOK w9) (hf : sb_Fit f) (hs : SS x k d) : WE l G yJ4_append_f7089 cJ4_append_f7089 3 (some (.object "java/lang/StringBuilder")) 6 1 34 [.ref o, .long x] [(o, .inr (1, [.ref v, .int 0, .int 0, .int (nI 0)])), (v, .inl (gC G 2, w9, .inl f))] (fun r wd => r = some (.ref o) ∧ BD G o (k + d) (tT x.toInt.natAbs k d) wd) := by
  refine WE.ofW (own := RJ4) rfl (plainFor_of_name pnN_RJ4) (Nat.le_of_ble_eq_true rfl) ?_
  intro p e s m below meth c A C hr hk hnm hE hP hD hA hAB hS ls hl
  have hx := C.1
  have hb := C.2.1
  have hml := C.2.2.1
  have hown := C.2.2.2.1
  have hw := C.2.2.2.2
  have hl : lv_has ls 3 [(0, .ref o), (1, .long x)] := hl
  refine lv_aload_n hx hb dJ4_append_f7089_0 rfl (lv_at hl 0 rfl) ?_
  refine lv_lload_n hx hb dJ4_append_f7089_1 rfl (lv_at hl 1 rfl) ?_
  have hP9 : va_P (gD G) vwCl ([] ++ [(o, .inr (1, [.ref v, .int 0, .int 0, .int (nI 0)])), (v, .inl (gC G 2, w9, .inl f))]) _ := hP
  have hD9 : va_D A ([] ++ [(o, .inr (1, [.ref v, .int 0, .int 0, .int (nI 0)])), (v, .inl (gC G 2, w9, .inl f))]) := hD
  refine weU (wr := []) (wd := [(o, .inr (1, [.ref v, .int 0, .int 0, .int (nI 0)])), (v, .inl (gC G 2, w9, .inl f))]) (as := [.long x]) (rest := []) (cl := RJ4) C (s_appL5 l G o v w9 k d f x hm hf hs) F_J5_append_66267 rfl bw1517 bw1650 bw807 bw1518 (by decide +kernel) (hE.S hS hAB) hP9 hD9 hS hA hAB (rv1 hE.K hP (q0 := 0) rfl) hl.1 dJ4_append_f7089_2 ⟨Nat.le_of_ble_eq_true rfl, Nat.le_of_ble_eq_true rfl⟩ rfl (Nat.le_of_ble_eq_true rfl) ⟨Nat.le_of_ble_eq_true rfl, Nat.le_of_ble_eq_true rfl⟩ (fun r9 wd9 H locs hp9 hP hD hS => ?_)
  obtain ⟨rfl, v9_2, m9_2, f9_2, rfl, hm9_2, hle9_2, hf9_2⟩ := hp9
  have hP : va_P (gD G) vwCl [(o, .inr (1, [.ref v9_2, .int 0, .int 0, .int (nI (k + d))])), (v9_2, .inl (gC G 2, m9_2, .inl f9_2))] H := hP
  have hD : va_D A [(o, .inr (1, [.ref v9_2, .int 0, .int 0, .int (nI (k + d))])), (v9_2, .inl (gC G 2, m9_2, .inl f9_2))] := hD
  refine W.eq (g2 := F0 m 5 ls [.ref o]) rfl ?_
  refine lv_pop hx hb dJ4_append_f7089_5 rfl ?_
  refine lv_aload_n hx hb dJ4_append_f7089_6 rfl (lv_at hl 0 rfl) ?_
  exact weA hx hb hr (Or.inl ⟨_, rfl⟩) hk ⟨rfl, v9_2, m9_2, _, rfl, hm9_2, hle9_2, hf9_2⟩ hP hD hS (Nat.le_of_ble_eq_true rfl) (Nat.le_of_ble_eq_true rfl) dJ4_append_f7089_7

set_option maxRecDepth 100000 in
set_option maxHeartbeats 4000000 in
theorem s_coder6 (l : Launch) (G : GT) : RO l G yJ0_coder_7d493 cJ0_coder_7d493 1 (some .byte) 1 [.ref (ga G 6)] [] (some (.int 0)) := by
  refine RO.ofW (own := RJ0) rfl (plainFor_of_name pnN_RJ0) (Nat.le_of_ble_eq_true rfl) ?_
  intro p e s m below meth c C hr hk hE hP ls hl
  have hx := C.1
  have hb := C.2.1
  have hml := C.2.2.1
  have hown := C.2.2.2.1
  have hw := C.2.2.2.2
  have hl : lv_has ls 1 [(0, .ref (ga G 6))] := hl
  refine va_gets hx hb hE.2.2.2.2.2.2.1 va_S.rf hown (hw _ bw1035) (fun _ h9 => h9) dJ0_coder_7d493_0 ?_
  refine lv_if_eq (tgt := 13) hx hb dJ0_coder_7d493_3 (by decide) (fun c_x => absurd c_x (by decide)) (fun _ => ?_)
  refine lv_aload_n hx hb dJ0_coder_7d493_6 rfl (lv_at hl 0 rfl) ?_
  refine vk_getf (v := .int (0 : Int32)) hx hb hE.2.2.2.2.2.2.2.2.2.2.2.2.2.1 va_S.rf hown (hw _ bw1064) (fun _ h9 => h9) dJ0_coder_7d493_7 ?_
  refine lv_goto (tgt := 14) hx hb dJ0_coder_7d493_10 (by decide) ?_
  exact re_z (ty := .byte) hx hb hr hk (by decide) dJ0_coder_7d493_14 rfl

set_option maxRecDepth 100000 in
set_option maxHeartbeats 4000000 in
theorem s_coder (l : Launch) (G : GT) (o u n : Nat) (f : Nat → Int32) : RO l G yJ0_coder_7d493 cJ0_coder_7d493 1 (some .byte) 1 [.ref o] [(o, .inr (0, [.ref u, .int 0, .int 0, .int 0])), (u, .inl (gC G 2, n, .inl f))] (some (.int 0)) := by
  refine RO.ofW (own := RJ0) rfl (plainFor_of_name pnN_RJ0) (Nat.le_of_ble_eq_true rfl) ?_
  intro p e s m below meth c C hr hk hE hP ls hl
  have hx := C.1
  have hb := C.2.1
  have hml := C.2.2.1
  have hown := C.2.2.2.1
  have hw := C.2.2.2.2
  have hl : lv_has ls 1 [(0, .ref o)] := hl
  refine va_gets hx hb hE.2.2.2.2.2.2.1 va_S.rf hown (hw _ bw1035) (fun _ h9 => h9) dJ0_coder_7d493_0 ?_
  refine lv_if_eq (tgt := 13) hx hb dJ0_coder_7d493_3 (by decide) (fun c_x => absurd c_x (by decide)) (fun _ => ?_)
  refine lv_aload_n hx hb dJ0_coder_7d493_6 rfl (lv_at hl 0 rfl) ?_
  refine va_get (D := gD G) (cl := vwCl) (tys := gT G) (ci := 0) (v := .int 0) (C := RJ0) (T := TJ0) (N := 4) hx hb hw inB_J0 hown hE.K hP 0 rfl rfl 1 (by decide) (hw _ bw1064) (fun _ h9 => h9) rfl dJ0_coder_7d493_7 ?_
  refine lv_goto (tgt := 14) hx hb dJ0_coder_7d493_10 (by decide) ?_
  exact re_z (ty := .byte) hx hb hr hk (by decide) dJ0_coder_7d493_14 rfl

set_option maxRecDepth 100000 in
set_option maxHeartbeats 4000000 in
theorem s_length6 (l : Launch) (G : GT) : RO l G yJ0_length_8abf5 cJ0_length_8abf5 1 (some .int) 2 [.ref (ga G 6)] [] (some (.int 0)) := by
  refine RO.ofW (own := RJ0) rfl (plainFor_of_name pnN_RJ0) (Nat.le_of_ble_eq_true rfl) ?_
  intro p e s m below meth c C hr hk hE hP ls hl
  have hx := C.1
  have hb := C.2.1
  have hml := C.2.2.1
  have hown := C.2.2.2.1
  have hw := C.2.2.2.2
  have hl : lv_has ls 1 [(0, .ref (ga G 6))] := hl
  refine lv_aload_n hx hb dJ0_length_8abf5_0 rfl (lv_at hl 0 rfl) ?_
  refine vk_getf (v := .ref (ga G 8)) hx hb hE.2.2.2.2.2.2.2.2.2.2.2.2.2.2.1 va_S.rf hown (hw _ bw1063) (fun _ h9 => h9) dJ0_length_8abf5_1 ?_
  refine va_tlen (v := 0) hx hb hE.2.2.2.2.2.2.2.2.2.2.2.2.2.2.2 va_S.rf (by decide) dJ0_length_8abf5_4 ?_
  refine lv_aload_n hx hb dJ0_length_8abf5_5 rfl (lv_at hl 0 rfl) ?_
  refine rcVf (st1 := [.int (0 : Int32), .int (0 : Int32)]) (as := []) (rest := [.int (0 : Int32)]) (cl := RJ0) C (s_coder6 l G) F_J0_coder_7d493 rfl bw1031 bw1032 (hw _ bw1033) hE vpn (recvK6 hE va_S.rf) hl.1 dJ0_length_8abf5_6 ⟨Nat.le_of_ble_eq_true rfl, Nat.le_of_ble_eq_true rfl⟩ rfl (Nat.le_of_ble_eq_true rfl) ⟨Nat.le_of_ble_eq_true rfl, Nat.le_of_ble_eq_true rfl⟩ rfl ?_
  refine lv_ishr hx hb dJ0_length_8abf5_9 ?_
  refine k_foldi (y := (0 : Int32)) (sb_shr0 _) ?_
  exact re_i hx hb hr hk dJ0_length_8abf5_10 rfl

set_option maxRecDepth 100000 in
set_option maxHeartbeats 4000000 in
theorem s_length (l : Launch) (G : GT) (o u n : Nat) (f : Nat → Int32) : RO l G yJ0_length_8abf5 cJ0_length_8abf5 1 (some .int) 2 [.ref o] [(o, .inr (0, [.ref u, .int 0, .int 0, .int 0])), (u, .inl (gC G 2, n, .inl f))] (some (.int (nI n))) := by
  refine RO.ofW (own := RJ0) rfl (plainFor_of_name pnN_RJ0) (Nat.le_of_ble_eq_true rfl) ?_
  intro p e s m below meth c C hr hk hE hP ls hl
  have hx := C.1
  have hb := C.2.1
  have hml := C.2.2.1
  have hown := C.2.2.2.1
  have hw := C.2.2.2.2
  have hl : lv_has ls 1 [(0, .ref o)] := hl
  refine lv_aload_n hx hb dJ0_length_8abf5_0 rfl (lv_at hl 0 rfl) ?_
  refine va_get (D := gD G) (cl := vwCl) (tys := gT G) (ci := 0) (v := .ref u) (C := RJ0) (T := TJ0) (N := 4) hx hb hw inB_J0 hown hE.K hP 0 rfl rfl 0 (by decide) (hw _ bw1063) (fun _ h9 => h9) rfl dJ0_length_8abf5_1 ?_
  refine va_alen (tys := gT G) (v := (nI n)) hx hb hE.K hP 1 2 rfl rfl rfl dJ0_length_8abf5_4 ?_
  refine lv_aload_n hx hb dJ0_length_8abf5_5 rfl (lv_at hl 0 rfl) ?_
  refine rcVf (st1 := [.int (0 : Int32), .int (nI n)]) (as := []) (rest := [.int (nI n)]) (cl := RJ0) C (s_coder l G o u n f) F_J0_coder_7d493 rfl bw1031 bw1032 (hw _ bw1033) hE (show va_P (gD G) vwCl [(o, .inr (0, [.ref u, .int 0, .int 0, .int 0])), (u, .inl (gC G 2, n, .inl f))] _ from hP.sub [0, 1] rfl) (rv0 hE.K hP (q0 := 0) rfl) hl.1 dJ0_length_8abf5_6 ⟨Nat.le_of_ble_eq_true rfl, Nat.le_of_ble_eq_true rfl⟩ rfl (Nat.le_of_ble_eq_true rfl) ⟨Nat.le_of_ble_eq_true rfl, Nat.le_of_ble_eq_true rfl⟩ rfl ?_
  refine lv_ishr hx hb dJ0_length_8abf5_9 ?_
  refine k_foldi (y := (nI n)) (sb_shr0 _) ?_
  exact re_i hx hb hr hk dJ0_length_8abf5_10 rfl

set_option maxRecDepth 100000 in
set_option maxHeartbeats 4000000 in
theorem s_getBytes (l : Launch) (G : GT) (v w9 : Nat) (f : Nat → Int32) (hf : sb_Fit f) : WE l G yJ0_getBytes_840e7 cJ0_getBytes_840e7 4 none 2 0 0 [.ref (ga G 6), .ref v, .int (nI 0), .int (0 : Int32)] [(v, .inl (gC G 2, w9, .inl f))] (fun r wd => r = none ∧ ∃ f1 : Nat → Int32, wd = [(v, .inl (gC G 2, w9, .inl f1))] ∧ sb_Fit f1) := by
  refine WE.ofW (own := RJ0) rfl (plainFor_of_name pnN_RJ0) (Nat.le_of_ble_eq_true rfl) ?_
  intro p e s m below meth c A C hr hk hnm hE hP hD hA hAB hS ls hl
  have hx := C.1
  have hb := C.2.1
  have hml := C.2.2.1
  have hown := C.2.2.2.1
  have hw := C.2.2.2.2
  have hl : lv_has ls 4 [(0, .ref (ga G 6)), (1, .ref v), (2, .int (nI 0)), (3, .int (0 : Int32))] := hl
  refine lv_aload_n hx hb dJ0_getBytes_840e7_0 rfl (lv_at hl 0 rfl) ?_
  refine rcVf (st1 := [.int (0 : Int32)]) (as := []) (rest := []) (cl := RJ0) C (s_coder6 l G) F_J0_coder_7d493 rfl bw1031 bw1032 (hw _ bw1033) (hE.S hS hAB) vpn (recvK6 hE (hS.wide hAB)) hl.1 dJ0_getBytes_840e7_1 ⟨Nat.le_of_ble_eq_true rfl, Nat.le_of_ble_eq_true rfl⟩ rfl (Nat.le_of_ble_eq_true rfl) ⟨Nat.le_of_ble_eq_true rfl, Nat.le_of_ble_eq_true rfl⟩ rfl ?_
  refine lv_iload_n hx hb dJ0_getBytes_840e7_4 rfl (lv_at hl 3 rfl) ?_
  refine lv_icmp_ne (tgt := 28) hx hb dJ0_getBytes_840e7_5 (by decide) (fun c_x => absurd (show (0 : Int32) = (0 : Int32) from by decide) c_x) (fun _ => ?_)
  refine lv_aload_n hx hb dJ0_getBytes_840e7_8 rfl (lv_at hl 0 rfl) ?_
  refine vk_getf (v := .ref (ga G 8)) hx hb hE.2.2.2.2.2.2.2.2.2.2.2.2.2.2.1 (hS.wide hAB) hown (hw _ bw1063) (fun _ h9 => h9) dJ0_getBytes_840e7_9 ?_
  refine lv_iconst (v := (0 : Int32)) hx hb dJ0_getBytes_840e7_12 qi_0 ?_
  refine lv_aload_n hx hb dJ0_getBytes_840e7_13 rfl (lv_at hl 1 rfl) ?_
  refine lv_iload_n hx hb dJ0_getBytes_840e7_14 rfl (lv_at hl 2 rfl) ?_
  refine lv_iload_n hx hb dJ0_getBytes_840e7_15 rfl (lv_at hl 3 rfl) ?_
  refine lv_ishl hx hb dJ0_getBytes_840e7_16 ?_
  refine k_foldi (y := (nI 0)) (sb_shl0 _) ?_
  refine lv_aload_n hx hb dJ0_getBytes_840e7_17 rfl (lv_at hl 0 rfl) ?_
  refine vk_getf (v := .ref (ga G 8)) hx hb hE.2.2.2.2.2.2.2.2.2.2.2.2.2.2.1 (hS.wide hAB) hown (hw _ bw1063) (fun _ h9 => h9) dJ0_getBytes_840e7_18 ?_
  refine va_tlen (v := 0) hx hb hE.2.2.2.2.2.2.2.2.2.2.2.2.2.2.2 (hS.wide hAB) (by decide) dJ0_getBytes_840e7_21 ?_
  refine vk_copyt (f := fun _ => 0) (tys := gT G) hx hb (by rw [hml]; exact hl.1.symm) hown (hw _ bw1049) (hw _ bw851) (hw _ bw850) (hw _ bw72) hE.K hP hD hS (hE.2.2.2.2.2.2.2.2.2.2.2.2.2.2.2.narrow hAB) 0 2 rfl rfl (by decide) (by decide) (by decide) (by decide) (by show 0 + 0 ≤ w9; omega) (fun i hi => by decide) (Nat.le_of_ble_eq_true rfl) (Nat.le_of_ble_eq_true rfl) dJ0_getBytes_840e7_22 (fun H locs hP hD hS => ?_)
  have hP : va_P (gD G) vwCl [(v, .inl (gC G 2, w9, .inl (va_cpy (fun _ => 0) f (0 : Int32).toNatClampNeg (nI 0).toNatClampNeg (0 : Int32).toNatClampNeg)))] H := hP
  have hD : va_D A [(v, .inl (gC G 2, w9, .inl (va_cpy (fun _ => 0) f (0 : Int32).toNatClampNeg (nI 0).toNatClampNeg (0 : Int32).toNatClampNeg)))] := hD
  refine lv_goto (tgt := 43) hx hb dJ0_getBytes_840e7_25 (by decide) ?_
  exact we_v hx hb hr hk ⟨rfl, _, rfl, sb_fitC sb_fit0 hf⟩ hP hD hS (Nat.le_of_ble_eq_true rfl) (Nat.le_of_ble_eq_true rfl) dJ0_getBytes_840e7_43

set_option maxRecDepth 100000 in
set_option maxHeartbeats 4000000 in
theorem s_inflIf (l : Launch) (G : GT) (o v w9 : Nat) (z n : Int32) (f : Nat → Int32) : RO l G yJ5_inflateIfNeededFor_a7421 cJ5_inflateIfNeededFor_a7421 2 none 2 [.ref o, .ref (ga G 6)] [(o, .inr (1, [.ref v, .int 0, .int z, .int n])), (v, .inl (gC G 2, w9, .inl f))] (none) := by
  refine RO.ofW (own := RJ5) rfl (plainFor_of_name pnN_RJ5) (Nat.le_of_ble_eq_true rfl) ?_
  intro p e s m below meth c C hr hk hE hP ls hl
  have hx := C.1
  have hb := C.2.1
  have hml := C.2.2.1
  have hown := C.2.2.2.1
  have hw := C.2.2.2.2
  have hl : lv_has ls 2 [(0, .ref o), (1, .ref (ga G 6))] := hl
  refine va_gets hx hb hE.2.2.2.2.2.2.1 va_S.rf hown (hw _ bw786) (fun _ h9 => h9) dJ5_inflateIfNeededFor_a7421_0 ?_
  refine lv_if_eq (tgt := 21) hx hb dJ5_inflateIfNeededFor_a7421_3 (by decide) (fun c_x => absurd c_x (by decide)) (fun _ => ?_)
  refine lv_aload_n hx hb dJ5_inflateIfNeededFor_a7421_6 rfl (lv_at hl 0 rfl) ?_
  refine va_get (D := gD G) (cl := vwCl) (tys := gT G) (ci := 1) (v := .int 0) (C := RJ4) (T := TJ4) (N := 4) hx hb hw inB_J4 hown hE.K hP 0 rfl rfl 1 (by decide) (hw _ bw796) (fun _ h9 => h9) rfl dJ5_inflateIfNeededFor_a7421_7 ?_
  refine lv_aload_n hx hb dJ5_inflateIfNeededFor_a7421_10 rfl (lv_at hl 1 rfl) ?_
  refine rcVf (st1 := [.int (0 : Int32), .int (0 : Int32)]) (as := []) (rest := [.int (0 : Int32)]) (cl := RJ0) C (s_coder6 l G) F_J0_coder_7d493 rfl bw1044 bw1032 (hw _ bw1033) hE vpn (recvK6 hE va_S.rf) hl.1 dJ5_inflateIfNeededFor_a7421_11 ⟨Nat.le_of_ble_eq_true rfl, Nat.le_of_ble_eq_true rfl⟩ rfl (Nat.le_of_ble_eq_true rfl) ⟨Nat.le_of_ble_eq_true rfl, Nat.le_of_ble_eq_true rfl⟩ rfl ?_
  refine lv_icmp_eq (tgt := 21) hx hb dJ5_inflateIfNeededFor_a7421_14 (by decide) (fun _ => ?_) (fun c_x => absurd (show (0 : Int32) = (0 : Int32) from by decide) c_x)
  exact re_v hx hb hr hk dJ5_inflateIfNeededFor_a7421_21 rfl

set_option maxRecDepth 100000 in
set_option maxHeartbeats 4000000 in
theorem s_putStr (l : Launch) (G : GT) (o v w9 : Nat) (f : Nat → Int32) (hm : mOK w9) (hf : sb_Fit f) : WE l G yJ5_putStringAt_47b60 cJ5_putStringAt_47b60 3 none 3 0 0 [.ref o, .int (nI 0), .ref (ga G 6)] [(o, .inr (1, [.ref v, .int 0, .int 0, .int (nI 0)])), (v, .inl (gC G 2, w9, .inl f))] (fun r wd => r = none ∧ ∃ f1 : Nat → Int32, wd = wB G o v w9 0 (nI 0) f1 ∧ sb_Fit f1) := by
  refine WE.ofW (own := RJ5) rfl (plainFor_of_name pnN_RJ5) (Nat.le_of_ble_eq_true rfl) ?_
  intro p e s m below meth c A C hr hk hnm hE hP hD hA hAB hS ls hl
  have hx := C.1
  have hb := C.2.1
  have hml := C.2.2.1
  have hown := C.2.2.2.1
  have hw := C.2.2.2.2
  have hl : lv_has ls 3 [(0, .ref o), (1, .int (nI 0)), (2, .ref (ga G 6))] := hl
  refine lv_aload_n hx hb dJ5_putStringAt_47b60_0 rfl (lv_at hl 0 rfl) ?_
  refine lv_aload_n hx hb dJ5_putStringAt_47b60_1 rfl (lv_at hl 2 rfl) ?_
  refine rcVf (st1 := []) (as := [.ref (ga G 6)]) (rest := []) (cl := RJ4) C (s_inflIf l G o v w9 0 (nI 0) f) F_J5_inflateIfNeededFor_a7421 rfl bw1040 bw1042 (hw _ xs_inflateIfNeededFor) (hE.S hS hAB) (show va_P (gD G) vwCl [(o, .inr (1, [.ref v, .int 0, .int 0, .int (nI 0)])), (v, .inl (gC G 2, w9, .inl f))] _ from hP.sub [0, 1] rfl) (rv1 hE.K hP (q0 := 0) rfl) hl.1 dJ5_putStringAt_47b60_2 ⟨Nat.le_of_ble_eq_true rfl, Nat.le_of_ble_eq_true rfl⟩ rfl (Nat.le_of_ble_eq_true rfl) ⟨Nat.le_of_ble_eq_true rfl, Nat.le_of_ble_eq_true rfl⟩ rfl ?_
  refine lv_aload_n hx hb dJ5_putStringAt_47b60_5 rfl (lv_at hl 2 rfl) ?_
  refine lv_aload_n hx hb dJ5_putStringAt_47b60_6 rfl (lv_at hl 0 rfl) ?_
  refine va_get (D := gD G) (cl := vwCl) (tys := gT G) (ci := 1) (v := .ref v) (C := RJ4) (T := TJ4) (N := 4) hx hb hw inB_J4 hown hE.K hP 0 rfl rfl 0 (by decide) (hw _ bw795) (fun _ h9 => h9) rfl dJ5_putStringAt_47b60_7 ?_
  refine lv_iload_n hx hb dJ5_putStringAt_47b60_10 rfl (lv_at hl 1 rfl) ?_
  refine lv_aload_n hx hb dJ5_putStringAt_47b60_11 rfl (lv_at hl 0 rfl) ?_
  refine va_get (D := gD G) (cl := vwCl) (tys := gT G) (ci := 1) (v := .int 0) (C := RJ4) (T := TJ4) (N := 4) hx hb hw inB_J4 hown hE.K hP 0 rfl rfl 1 (by decide) (hw _ bw796) (fun _ h9 => h9) rfl dJ5_putStringAt_47b60_12 ?_
  have hP9 : va_P (gD G) vwCl ([(o, .inr (1, [.ref v, .int 0, .int 0, .int (nI 0)]))] ++ [(v, .inl (gC G 2, w9, .inl f))]) _ := hP
  have hD9 : va_D A ([(o, .inr (1, [.ref v, .int 0, .int 0, .int (nI 0)]))] ++ [(v, .inl (gC G 2, w9, .inl f))]) := hD
  refine weVf (wr := [(o, .inr (1, [.ref v, .int 0, .int 0, .int (nI 0)]))]) (wd := [(v, .inl (gC G 2, w9, .inl f))]) (as := [.ref v, .int (nI 0), .int (0 : Int32)]) (rest := []) (cl := RJ0) C (s_getBytes l G v w9 f hf) F_J0_getBytes_840e7 rfl bw1045 bw1046 (hw _ bw1047) (hE.S hS hAB) hP9 hD9 hS hA hAB (recvK6 hE (hS.wide hAB)) hl.1 dJ5_putStringAt_47b60_15 ⟨Nat.le_of_ble_eq_true rfl, Nat.le_of_ble_eq_true rfl⟩ rfl (Nat.le_of_ble_eq_true rfl) ⟨Nat.le_of_ble_eq_true rfl, Nat.le_of_ble_eq_true rfl⟩ (fun r9 wd9 H locs hp9 hP hD hS => ?_)
  obtain ⟨rfl, f9_15, rfl, hf9_15⟩ := hp9
  have hP : va_P (gD G) vwCl [(o, .inr (1, [.ref v, .int 0, .int 0, .int (nI 0)])), (v, .inl (gC G 2, w9, .inl f9_15))] H := hP
  have hD : va_D A [(o, .inr (1, [.ref v, .int 0, .int 0, .int (nI 0)])), (v, .inl (gC G 2, w9, .inl f9_15))] := hD
  refine W.eq (g2 := F0 m 18 ls []) rfl ?_
  exact we_v hx hb hr hk ⟨rfl, _, rfl, hf9_15⟩ hP hD hS (Nat.le_of_ble_eq_true rfl) (Nat.le_of_ble_eq_true rfl) dJ5_putStringAt_47b60_18

set_option maxRecDepth 100000 in
set_option maxHeartbeats 4000000 in
theorem s_appS5 (l : Launch) (G : GT) (o v w9 : Nat) (f : Nat → Int32) (hm : mOK w9) (hf : sb_Fit f) : WE l G yJ5_append_cf1ce cJ5_append_cf1ce 3 (some (.object "java/lang/AbstractStringBuilder")) 5 1 34 [.ref o, .ref (ga G 6)] [(o, .inr (1, [.ref v, .int 0, .int 0, .int (nI 0)])), (v, .inl (gC G 2, w9, .inl f))] (fun r wd => r = some (.ref o) ∧ BD G o 0 (fun _ => 0) wd) := by
  refine WE.ofW (own := RJ5) rfl (plainFor_of_name pnN_RJ5) (Nat.le_of_ble_eq_true rfl) ?_
  intro p e s m below meth c A C hr hk hnm hE hP hD hA hAB hS ls hl
  have hx := C.1
  have hb := C.2.1
  have hml := C.2.2.1
  have hown := C.2.2.2.1
  have hw := C.2.2.2.2
  have hl : lv_has ls 3 [(0, .ref o), (1, .ref (ga G 6))] := hl
  refine lv_aload_n hx hb dJ5_append_cf1ce_0 rfl (lv_at hl 1 rfl) ?_
  refine lv_ifnonnull (tgt := 9) hx hb dJ5_append_cf1ce_1 (by decide) ?_
  refine lv_aload_n hx hb dJ5_append_cf1ce_9 rfl (lv_at hl 1 rfl) ?_
  refine rcVf (st1 := [.int (0 : Int32)]) (as := []) (rest := []) (cl := RJ0) C (s_length6 l G) F_J0_length_8abf5 rfl bw1027 bw1028 (hw _ bw1029) (hE.S hS hAB) vpn (recvK6 hE (hS.wide hAB)) hl.1 dJ5_append_cf1ce_10 ⟨Nat.le_of_ble_eq_true rfl, Nat.le_of_ble_eq_true rfl⟩ rfl (Nat.le_of_ble_eq_true rfl) ⟨Nat.le_of_ble_eq_true rfl, Nat.le_of_ble_eq_true rfl⟩ rfl ?_
  refine lv_istore_n (lv' := [(2, .int (0 : Int32)), (0, .ref o), (1, .ref (ga G 6))]) hx hb dJ5_append_cf1ce_13 rfl hl (Nat.le_of_ble_eq_true rfl) rfl (fun ls hl => ?_)
  refine lv_aload_n hx hb dJ5_append_cf1ce_14 rfl (lv_at hl 1 rfl) ?_
  refine lv_aload_n hx hb dJ5_append_cf1ce_15 rfl (lv_at hl 1 rfl) ?_
  refine va_get (D := gD G) (cl := vwCl) (tys := gT G) (ci := 1) (v := .int (nI 0)) (C := RJ4) (T := TJ4) (N := 4) hx hb hw inB_J4 hown hE.K hP 0 rfl rfl 3 (by decide) (hw _ bw798) (fun _ h9 => h9) rfl dJ5_append_cf1ce_16 ?_
  refine lv_iload_n hx hb dJ5_append_cf1ce_19 rfl (lv_at hl 0 rfl) ?_
  refine lv_iadd hx hb dJ5_append_cf1ce_20 ?_
  refine k_foldi (y := (nI 0)) (by decide) ?_
  have hP9 : va_P (gD G) vwCl ([] ++ [(o, .inr (1, [.ref v, .int 0, .int 0, .int (nI 0)])), (v, .inl (gC G 2, w9, .inl f))]) _ := hP
  have hD9 : va_D A ([] ++ [(o, .inr (1, [.ref v, .int 0, .int 0, .int (nI 0)])), (v, .inl (gC G 2, w9, .inl f))]) := hD
  refine weVf (wr := []) (wd := [(o, .inr (1, [.ref v, .int 0, .int 0, .int (nI 0)])), (v, .inl (gC G 2, w9, .inl f))]) (as := [.int (nI 0)]) (rest := []) (cl := RJ4) C (s_ensure l G o v w9 (nI 0) f 0 hm (by decide) hf) F_J5_ensureCapacityInternal_d00df rfl bw819 bw821 (hw _ xs_ensureCapacityInternal) (hE.S hS hAB) hP9 hD9 hS hA hAB (rv1 hE.K hP (q0 := 0) rfl) hl.1 dJ5_append_cf1ce_21 ⟨Nat.le_of_ble_eq_true rfl, Nat.le_of_ble_eq_true rfl⟩ rfl (Nat.le_of_ble_eq_true rfl) ⟨Nat.le_of_ble_eq_true rfl, Nat.le_of_ble_eq_true rfl⟩ (fun r9 wd9 H locs hp9 hP hD hS => ?_)
  obtain ⟨rfl, v9_21, m9_21, f9_21, rfl, hm9_21, hle9_21, hf9_21⟩ := hp9
  have hP : va_P (gD G) vwCl [(o, .inr (1, [.ref v9_21, .int 0, .int 0, .int (nI 0)])), (v9_21, .inl (gC G 2, m9_21, .inl f9_21))] H := hP
  have hD : va_D A [(o, .inr (1, [.ref v9_21, .int 0, .int 0, .int (nI 0)])), (v9_21, .inl (gC G 2, m9_21, .inl f9_21))] := hD
  refine W.eq (g2 := F0 m 24 ls []) rfl ?_
  refine lv_aload_n hx hb dJ5_append_cf1ce_24 rfl (lv_at hl 1 rfl) ?_
  refine lv_aload_n hx hb dJ5_append_cf1ce_25 rfl (lv_at hl 1 rfl) ?_
  refine va_get (D := gD G) (cl := vwCl) (tys := gT G) (ci := 1) (v := .int (nI 0)) (C := RJ4) (T := TJ4) (N := 4) hx hb hw inB_J4 hown hE.K hP 0 rfl rfl 3 (by decide) (hw _ bw798) (fun _ h9 => h9) rfl dJ5_append_cf1ce_26 ?_
  refine lv_aload_n hx hb dJ5_append_cf1ce_29 rfl (lv_at hl 2 rfl) ?_
  have hP9 : va_P (gD G) vwCl ([] ++ [(o, .inr (1, [.ref v9_21, .int 0, .int 0, .int (nI 0)])), (v9_21, .inl (gC G 2, m9_21, .inl f9_21))]) _ := hP
  have hD9 : va_D A ([] ++ [(o, .inr (1, [.ref v9_21, .int 0, .int 0, .int (nI 0)])), (v9_21, .inl (gC G 2, m9_21, .inl f9_21))]) := hD
  refine weVf (wr := []) (wd := [(o, .inr (1, [.ref v9_21, .int 0, .int 0, .int (nI 0)])), (v9_21, .inl (gC G 2, m9_21, .inl f9_21))]) (as := [.int (nI 0), .ref (ga G 6)]) (rest := []) (cl := RJ4) C (s_putStr l G o v9_21 m9_21 f9_21 hm9_21 hf9_21.1) F_J5_putStringAt_47b60 rfl bw1036 bw1038 (hw _ xs_putStringAt) (hE.S hS hAB) hP9 hD9 hS hA hAB (rv1 hE.K hP (q0 := 0) rfl) hl.1 dJ5_append_cf1ce_30 ⟨Nat.le_of_ble_eq_true rfl, Nat.le_of_ble_eq_true rfl⟩ rfl (Nat.le_of_ble_eq_true rfl) ⟨Nat.le_of_ble_eq_true rfl, Nat.le_of_ble_eq_true rfl⟩ (fun r9 wd9 H locs hp9 hP hD hS => ?_)
  obtain ⟨rfl, f9_30, rfl, hf9_30⟩ := hp9
  have hP : va_P (gD G) vwCl [(o, .inr (1, [.ref v9_21, .int 0, .int 0, .int (nI 0)])), (v9_21, .inl (gC G 2, m9_21, .inl f9_30))] H := hP
  have hD : va_D A [(o, .inr (1, [.ref v9_21, .int 0, .int 0, .int (nI 0)])), (v9_21, .inl (gC G 2, m9_21, .inl f9_30))] := hD
  refine W.eq (g2 := F0 m 33 ls []) rfl ?_
  refine lv_aload_n hx hb dJ5_append_cf1ce_33 rfl (lv_at hl 1 rfl) ?_
  refine lv_dup hx hb dJ5_append_cf1ce_34 rfl ?_
  refine va_get (D := gD G) (cl := vwCl) (tys := gT G) (ci := 1) (v := .int (nI 0)) (C := RJ4) (T := TJ4) (N := 4) hx hb hw inB_J4 hown hE.K hP 0 rfl rfl 3 (by decide) (hw _ bw798) (fun _ h9 => h9) rfl dJ5_append_cf1ce_35 ?_
  refine lv_iload_n hx hb dJ5_append_cf1ce_38 rfl (lv_at hl 0 rfl) ?_
  refine lv_iadd hx hb dJ5_append_cf1ce_39 ?_
  refine k_foldi (y := (nI 0)) (by decide) ?_
  refine va_put (D := gD G) (cl := vwCl) (tys := gT G) (ci := 1) (v := .int (nI 0)) (ty := tyJ4 3) (C := RJ4) (T := TJ4) (N := 4) hx hb hw inB_J4 tyJ4 tyJ4_ok nmJ4 hown hE.K hP hD hS 0 rfl rfl 3 (by decide) (hw _ bw798) (fun _ h9 => h9) rfl (by first | decide +kernel | rfl) rfl rfl (Nat.le_of_ble_eq_true rfl) dJ5_append_cf1ce_40 (fun H locs hP hD hS => ?_)
  have hP : va_P (gD G) vwCl [(o, .inr (1, [.ref v9_21, .int 0, .int 0, .int (nI 0)])), (v9_21, .inl (gC G 2, m9_21, .inl f9_30))] H := hP
  have hD : va_D A [(o, .inr (1, [.ref v9_21, .int 0, .int 0, .int (nI 0)])), (v9_21, .inl (gC G 2, m9_21, .inl f9_30))] := hD
  refine lv_aload_n hx hb dJ5_append_cf1ce_43 rfl (lv_at hl 1 rfl) ?_
  exact weA hx hb hr (Or.inl ⟨_, rfl⟩) hk ⟨rfl, v9_21, m9_21, _, rfl, hm9_21, hle9_21, TX.no hf9_30⟩ hP hD hS (Nat.le_of_ble_eq_true rfl) (Nat.le_of_ble_eq_true rfl) dJ5_append_cf1ce_44

set_option maxRecDepth 100000 in
set_option maxHeartbeats 4000000 in
theorem s_appS (l : Launch) (G : GT) (o v w9 : Nat) (f : Nat → Int32) (hm : mOK w9) (hf : sb_Fit f) : WE l G yJ4_append_15ec4 cJ4_append_15ec4 2 (some (.object "java/lang/StringBuilder")) 6 1 34 [.ref o, .ref (ga G 6)] [(o, .inr (1, [.ref v, .int 0, .int 0, .int (nI 0)])), (v, .inl (gC G 2, w9, .inl f))] (fun r wd => r = some (.ref o) ∧ BD G o 0 (fun _ => 0) wd) := by
  refine WE.ofW (own := RJ4) rfl (plainFor_of_name pnN_RJ4) (Nat.le_of_ble_eq_true rfl) ?_
  intro p e s m below meth c A C hr hk hnm hE hP hD hA hAB hS ls hl
  have hx := C.1
  have hb := C.2.1
  have hml := C.2.2.1
  have hown := C.2.2.2.1
  have hw := C.2.2.2.2
  have hl : lv_has ls 2 [(0, .ref o), (1, .ref (ga G 6))] := hl
  refine lv_aload_n hx hb dJ4_append_15ec4_0 rfl (lv_at hl 0 rfl) ?_
  refine lv_aload_n hx hb dJ4_append_15ec4_1 rfl (lv_at hl 1 rfl) ?_
  have hP9 : va_P (gD G) vwCl ([] ++ [(o, .inr (1, [.ref v, .int 0, .int 0, .int (nI 0)])), (v, .inl (gC G 2, w9, .inl f))]) _ := hP
  have hD9 : va_D A ([] ++ [(o, .inr (1, [.ref v, .int 0, .int 0, .int (nI 0)])), (v, .inl (gC G 2, w9, .inl f))]) := hD
  refine weU (wr := []) (wd := [(o, .inr (1, [.ref v, .int 0, .int 0, .int (nI 0)])), (v, .inl (gC G 2, w9, .inl f))]) (as := [.ref (ga G 6)]) (rest := []) (cl := RJ4) C (s_appS5 l G o v w9 f hm hf) F_J5_append_cf1ce rfl bw1017 bw1646 bw807 bw1018 (by decide +kernel) (hE.S hS hAB) hP9 hD9 hS hA hAB (rv1 hE.K hP (q0 := 0) rfl) hl.1 dJ4_append_15ec4_2 ⟨Nat.le_of_ble_eq_true rfl, Nat.le_of_ble_eq_true rfl⟩ rfl (Nat.le_of_ble_eq_true rfl) ⟨Nat.le_of_ble_eq_true rfl, Nat.le_of_ble_eq_true rfl⟩ (fun r9 wd9 H locs hp9 hP hD hS => ?_)
  obtain ⟨rfl, v9_2, m9_2, f9_2, rfl, hm9_2, hle9_2, hf9_2⟩ := hp9
  have hP : va_P (gD G) vwCl [(o, .inr (1, [.ref v9_2, .int 0, .int 0, .int (nI 0)])), (v9_2, .inl (gC G 2, m9_2, .inl f9_2))] H := hP
  have hD : va_D A [(o, .inr (1, [.ref v9_2, .int 0, .int 0, .int (nI 0)])), (v9_2, .inl (gC G 2, m9_2, .inl f9_2))] := hD
  refine W.eq (g2 := F0 m 5 ls [.ref o]) rfl ?_
  refine lv_pop hx hb dJ4_append_15ec4_5 rfl ?_
  refine lv_aload_n hx hb dJ4_append_15ec4_6 rfl (lv_at hl 0 rfl) ?_
  exact weA hx hb hr (Or.inl ⟨_, rfl⟩) hk ⟨rfl, v9_2, m9_2, _, rfl, hm9_2, hle9_2, hf9_2⟩ hP hD hS (Nat.le_of_ble_eq_true rfl) (Nat.le_of_ble_eq_true rfl) dJ4_append_15ec4_7

set_option maxRecDepth 100000 in
set_option maxHeartbeats 4000000 in
theorem s_checkLength (l : Launch) (G : GT) (k : Nat) (hk9 : k < 35) : RO l G yJ7_checkLength_df160 cJ7_checkLength_df160 2 none 1 [.int (0 : Int32), .int (nI k)] [] (none) := by
  refine RO.ofW (own := RJ7) rfl (plainFor_of_name pnN_RJ7) (Nat.le_of_ble_eq_true rfl) ?_
  intro p e s m below meth c C hr hk hE hP ls hl
  have hx := C.1
  have hb := C.2.1
  have hml := C.2.2.1
  have hown := C.2.2.2.1
  have hw := C.2.2.2.2
  have hl : lv_has ls 2 [(0, .int (0 : Int32)), (1, .int (nI k))] := hl
  refine lv_iload_n hx hb dJ7_checkLength_df160_0 rfl (lv_at hl 1 rfl) ?_
  refine lv_iload_n hx hb dJ7_checkLength_df160_1 rfl (lv_at hl 0 rfl) ?_
  refine lv_icmp_ge (tgt := 37) hx hb dJ7_checkLength_df160_2 (by decide) (fun _ => ?_) (fun c_x => absurd (nI_pos' (by omega)) c_x)
  exact re_v hx hb hr hk dJ7_checkLength_df160_37 rfl

theorem nI_sub0 (k : Nat) : nI k - (0 : Int32) = nI k := Int32.sub_zero _
theorem min_nI {m k : Nat} (h : k ≤ m) (hm : m < 35) : (fJ9_min_7cf53 ((nI m) - (0 : Int32)) (nI k)) = nI k := by
  rw [nI_sub0]
  unfold fJ9_min_7cf53
  by_cases q : nI k < nI m
  · rw [if_pos q]
  · rw [if_neg q]
    have : ¬ k < m := fun z => q ((nI_ltI (by omega) (by omega)).mpr z)
    congr 1
    omega

set_option maxRecDepth 100000 in
set_option maxHeartbeats 4000000 in
theorem s_copyRB (l : Launch) (G : GT) (v w9 k : Nat) (f : Nat → Int32) (hm : w9 < 35) (hk9 : k < 35) (hkm : k ≤ w9) (hf : sb_Fit f) : WE l G yJ7_copyOfRangeByte_39247 cJ7_copyOfRangeByte_39247 5 (some (.array .byte)) 3 1 34 [.ref v, .int (0 : Int32), .int (nI k)] [(v, .inl (gC G 2, w9, .inl f))] (fun r wd => ∃ (q : Nat) (f1 : Nat → Int32), r = some (.ref q) ∧ wd = [(v, .inl (gC G 2, w9, .inl f)), (q, .inl (gC G 2, k, .inl f1))] ∧ TX f k f1) := by
  refine WE.ofW (own := RJ7) rfl (plainFor_of_name pnN_RJ7) (Nat.le_of_ble_eq_true rfl) ?_
  intro p e s m below meth c A C hr hk hnm hE hP hD hA hAB hS ls hl
  have hx := C.1
  have hb := C.2.1
  have hml := C.2.2.1
  have hown := C.2.2.2.1
  have hw := C.2.2.2.2
  have hl : lv_has ls 5 [(0, .ref v), (1, .int (0 : Int32)), (2, .int (nI k))] := hl
  refine lv_iload_n hx hb dJ7_copyOfRangeByte_39247_0 rfl (lv_at hl 1 rfl) ?_
  refine lv_iload_n hx hb dJ7_copyOfRangeByte_39247_1 rfl (lv_at hl 2 rfl) ?_
  refine rcSf (st1 := []) (as := [.int (0 : Int32), .int (nI k)]) (rest := []) C (s_checkLength l G k hk9) F_J7_checkLength_df160 rfl bw975 bw976 (hE.S hS hAB) vpn hl.1 dJ7_copyOfRangeByte_39247_2 ⟨Nat.le_of_ble_eq_true rfl, Nat.le_of_ble_eq_true rfl⟩ rfl (Nat.le_of_ble_eq_true rfl) ⟨(Nat.le_of_ble_eq_true rfl), (by first | exact (Nat.le_of_ble_eq_true rfl) | (show 0 + k ≤ 34; omega))⟩ rfl ?_
  refine lv_iload_n hx hb dJ7_copyOfRangeByte_39247_5 rfl (lv_at hl 2 rfl) ?_
  refine lv_iload_n hx hb dJ7_copyOfRangeByte_39247_6 rfl (lv_at hl 1 rfl) ?_
  refine lv_isub hx hb dJ7_copyOfRangeByte_39247_7 ?_
  refine k_foldi (y := (nI k)) (nI_sub0 k) ?_
  refine lv_istore_n (lv' := [(3, .int (nI k)), (0, .ref v), (1, .int (0 : Int32)), (2, .int (nI k))]) hx hb dJ7_copyOfRangeByte_39247_8 rfl hl (Nat.le_of_ble_eq_true rfl) rfl (fun ls hl => ?_)
  refine lv_iload_n hx hb dJ7_copyOfRangeByte_39247_9 rfl (lv_at hl 0 rfl) ?_
  refine nwB (N' := k) hx hb (hw _ bw377) hE.K hP hD hS hA (nI_pos (by omega)) (nI_clamp (by omega)) (by show k * 1 ≤ _; omega) (Nat.le_of_ble_eq_true rfl) (by show 0 + k ≤ 34; omega) dJ7_copyOfRangeByte_39247_10 (fun q10 H hP hD hS => ?_)
  have hP : va_P (gD G) vwCl [(v, .inl (gC G 2, w9, .inl f)), (q10, .inl (gC G 2, k, .inl (fun _ => 0)))] H := hP
  have hD : va_D A [(v, .inl (gC G 2, w9, .inl f)), (q10, .inl (gC G 2, k, .inl (fun _ => 0)))] := hD
  refine lv_astore (lv' := [(4, .ref q10), (3, .int (nI k)), (0, .ref v), (1, .int (0 : Int32)), (2, .int (nI k))]) hx hb dJ7_copyOfRangeByte_39247_12 hl (Nat.le_of_ble_eq_true rfl) rfl (fun ls hl => ?_)
  refine lv_aload_n hx hb dJ7_copyOfRangeByte_39247_14 rfl (lv_at hl 2 rfl) ?_
  refine lv_iload_n hx hb dJ7_copyOfRangeByte_39247_15 rfl (lv_at hl 3 rfl) ?_
  refine lv_aload hx hb dJ7_copyOfRangeByte_39247_16 (lv_at hl 0 rfl) ?_
  refine lv_iconst (v := (0 : Int32)) hx hb dJ7_copyOfRangeByte_39247_18 qi_0 ?_
  refine lv_aload_n hx hb dJ7_copyOfRangeByte_39247_19 rfl (lv_at hl 2 rfl) ?_
  refine va_alen (tys := gT G) (v := (nI w9)) hx hb hE.K hP 0 2 rfl rfl rfl dJ7_copyOfRangeByte_39247_20 ?_
  refine lv_iload_n hx hb dJ7_copyOfRangeByte_39247_21 rfl (lv_at hl 3 rfl) ?_
  refine lv_isub hx hb dJ7_copyOfRangeByte_39247_22 ?_
  refine lv_iload_n hx hb dJ7_copyOfRangeByte_39247_23 rfl (lv_at hl 1 rfl) ?_
  refine rcSf (st1 := [.int (fJ9_min_7cf53 ((nI w9) - (0 : Int32)) (nI k)), .int (0 : Int32), .ref q10, .int (0 : Int32), .ref v]) (as := [.int ((nI w9) - (0 : Int32)), .int (nI k)]) (rest := [.int (0 : Int32), .ref q10, .int (0 : Int32), .ref v]) C (c_J9_min_7cf53 l G ((nI w9) - (0 : Int32)) (nI k)) F_J9_min_7cf53 rfl bw848 bw214 (hE.S hS hAB) vpn hl.1 dJ7_copyOfRangeByte_39247_24 ⟨Nat.le_of_ble_eq_true rfl, Nat.le_of_ble_eq_true rfl⟩ rfl (Nat.le_of_ble_eq_true rfl) ⟨(Nat.le_of_ble_eq_true rfl), (by first | exact (Nat.le_of_ble_eq_true rfl) | (show 0 + k ≤ 34; omega))⟩ rfl ?_
  refine k_foldi (y := (nI k)) (min_nI hkm hm) ?_
  refine va_copyi (tys := gT G) hx hb (by rw [hml]; exact hl.1.symm) hown (hw _ bw849) (hw _ bw851) (hw _ bw850) (hw _ bw72) hE.K hP hD hS 0 1 2 2 rfl rfl rfl rfl rfl (by decide) (by decide) (nI_pos (by omega)) (by rw [nI_clamp (by omega)]; show 0 + k ≤ w9; omega) (by rw [nI_clamp (by omega)]; show 0 + k ≤ k; omega) (fun i _ => hf _) (Nat.le_of_ble_eq_true rfl) (Nat.le_of_ble_eq_true rfl) dJ7_copyOfRangeByte_39247_27 (fun H locs hP hD hS => ?_)
  have hP : va_P (gD G) vwCl [(v, .inl (gC G 2, w9, .inl f)), (q10, .inl (gC G 2, k, .inl (va_cpy f (fun _ => 0) (0 : Int32).toNatClampNeg (0 : Int32).toNatClampNeg (nI k).toNatClampNeg)))] H := hP
  have hD : va_D A [(v, .inl (gC G 2, w9, .inl f)), (q10, .inl (gC G 2, k, .inl (va_cpy f (fun _ => 0) (0 : Int32).toNatClampNeg (0 : Int32).toNatClampNeg (nI k).toNatClampNeg)))] := hD
  refine lv_aload hx hb dJ7_copyOfRangeByte_39247_30 (lv_at hl 0 rfl) ?_
  exact weA hx hb hr (Or.inr ⟨_, rfl⟩) hk ⟨q10, _, rfl, rfl, ⟨sb_fitC hf sb_fit0, fun j hj => cpI (by decide) (by decide) (nI_clamp (by omega)) hj⟩⟩ hP hD hS (Nat.le_of_ble_eq_true rfl) (by show 0 + k ≤ 34; omega) dJ7_copyOfRangeByte_39247_32

set_option maxRecDepth 100000 in
set_option maxHeartbeats 4000000 in
theorem s_copyR_ne (l : Launch) (G : GT) (v w9 k : Nat) (f : Nat → Int32) (hm : w9 < 35) (hk9 : k < 35) (hkm : k ≤ w9) (hf : sb_Fit f) (hne : ¬ k = w9) : WE l G yJ7_copyOfRange_39247 cJ7_copyOfRange_39247 3 (some (.array .byte)) 4 1 34 [.ref v, .int (0 : Int32), .int (nI k)] [(v, .inl (gC G 2, w9, .inl f))] (fun r wd => ∃ (q : Nat) (f1 : Nat → Int32), r = some (.ref q) ∧ wd = [(v, .inl (gC G 2, w9, .inl f)), (q, .inl (gC G 2, k, .inl f1))] ∧ TX f k f1) := by
  refine WE.ofW (own := RJ7) rfl (plainFor_of_name pnN_RJ7) (Nat.le_of_ble_eq_true rfl) ?_
  intro p e s m below meth c A C hr hk hnm hE hP hD hA hAB hS ls hl
  have hx := C.1
  have hb := C.2.1
  have hml := C.2.2.1
  have hown := C.2.2.2.1
  have hw := C.2.2.2.2
  have hl : lv_has ls 3 [(0, .ref v), (1, .int (0 : Int32)), (2, .int (nI k))] := hl
  refine lv_iload_n hx hb dJ7_copyOfRange_39247_0 rfl (lv_at hl 1 rfl) ?_
  refine lv_if_ne (tgt := 10) hx hb dJ7_copyOfRange_39247_1 (by decide) (fun c_x => absurd (show (0 : Int32) = 0 from by decide) c_x) (fun _ => ?_)
  refine lv_iload_n hx hb dJ7_copyOfRange_39247_4 rfl (lv_at hl 2 rfl) ?_
  refine lv_aload_n hx hb dJ7_copyOfRange_39247_5 rfl (lv_at hl 0 rfl) ?_
  refine va_alen (tys := gT G) (v := (nI w9)) hx hb hE.K hP 0 2 rfl rfl rfl dJ7_copyOfRange_39247_6 ?_
  refine lv_icmp_eq (tgt := 17) hx hb dJ7_copyOfRange_39247_7 (by decide) (fun c_x => absurd c_x (fun z => hne ((nI_eq (by omega) (by omega)).mp z))) (fun _ => ?_)
  refine lv_aload_n hx hb dJ7_copyOfRange_39247_10 rfl (lv_at hl 0 rfl) ?_
  refine lv_iload_n hx hb dJ7_copyOfRange_39247_11 rfl (lv_at hl 1 rfl) ?_
  refine lv_iload_n hx hb dJ7_copyOfRange_39247_12 rfl (lv_at hl 2 rfl) ?_
  have hP9 : va_P (gD G) vwCl ([] ++ [(v, .inl (gC G 2, w9, .inl f))]) _ := hP
  have hD9 : va_D A ([] ++ [(v, .inl (gC G 2, w9, .inl f))]) := hD
  refine weS (wr := []) (wd := [(v, .inl (gC G 2, w9, .inl f))]) (as := [.ref v, .int (0 : Int32), .int (nI k)]) (rest := []) C (s_copyRB l G v w9 k f hm hk9 hkm hf) F_J7_copyOfRangeByte_39247 rfl bw972 bw973 (hE.S hS hAB) hP9 hD9 hS hA hAB hl.1 dJ7_copyOfRange_39247_13 ⟨Nat.le_of_ble_eq_true rfl, Nat.le_of_ble_eq_true rfl⟩ rfl (Nat.le_of_ble_eq_true rfl) ⟨Nat.le_of_ble_eq_true rfl, Nat.le_of_ble_eq_true rfl⟩ (fun r9 wd9 H locs hp9 hP hD hS => ?_)
  obtain ⟨q9_13, f9_13, rfl, rfl, hf9_13⟩ := hp9
  have hP : va_P (gD G) vwCl [(v, .inl (gC G 2, w9, .inl f)), (q9_13, .inl (gC G 2, k, .inl f9_13))] H := hP
  have hD : va_D A [(v, .inl (gC G 2, w9, .inl f)), (q9_13, .inl (gC G 2, k, .inl f9_13))] := hD
  refine W.eq (g2 := F0 m 16 ls [.ref q9_13]) rfl ?_
  exact weA hx hb hr (Or.inr ⟨_, rfl⟩) hk ⟨q9_13, f9_13, rfl, rfl, hf9_13⟩ hP hD hS (Nat.le_of_ble_eq_true rfl) (Nat.le_of_ble_eq_true rfl) dJ7_copyOfRange_39247_16

theorem cl_fit {cA : ClassId} {n : Nat} {f : Nat → Int32} (hf : sb_Fit f) : ∀ (i : Nat) (v : Value), (vp_cell cA (n, .inl f)).slots[i]? = some v → fits .byte v = true := by
  intro i v h
  have hi : i < n := by
    have := (Array.getElem?_eq_some_iff.mp h).1
    rw [show (vp_cell cA (n, .inl f)).slots.size = n from arrV_size _ _ _] at this
    exact this
  rw [show (vp_cell cA (n, .inl f)).slots[i]? = some (.int (f i)) from arrV_read _ _ hi] at h
  cases h
  exact hf i

set_option maxRecDepth 100000 in
set_option maxHeartbeats 4000000 in
theorem s_copyR_eq (l : Launch) (G : GT) (v k : Nat) (f : Nat → Int32) (hk9 : k < 35) (hf : sb_Fit f) : WE l G yJ7_copyOfRange_39247 cJ7_copyOfRange_39247 3 (some (.array .byte)) 4 1 34 [.ref v, .int (0 : Int32), .int (nI k)] [(v, .inl (gC G 2, k, .inl f))] (fun r wd => ∃ (q : Nat) (f1 : Nat → Int32), r = some (.ref q) ∧ wd = [(v, .inl (gC G 2, k, .inl f)), (q, .inl (gC G 2, k, .inl f1))] ∧ TX f k f1) := by
  refine WE.ofW (own := RJ7) rfl (plainFor_of_name pnN_RJ7) (Nat.le_of_ble_eq_true rfl) ?_
  intro p e s m below meth c A C hr hk hnm hE hP hD hA hAB hS ls hl
  have hx := C.1
  have hb := C.2.1
  have hml := C.2.2.1
  have hown := C.2.2.2.1
  have hw := C.2.2.2.2
  have hl : lv_has ls 3 [(0, .ref v), (1, .int (0 : Int32)), (2, .int (nI k))] := hl
  refine lv_iload_n hx hb dJ7_copyOfRange_39247_0 rfl (lv_at hl 1 rfl) ?_
  refine lv_if_ne (tgt := 10) hx hb dJ7_copyOfRange_39247_1 (by decide) (fun c_x => absurd (show (0 : Int32) = 0 from by decide) c_x) (fun _ => ?_)
  refine lv_iload_n hx hb dJ7_copyOfRange_39247_4 rfl (lv_at hl 2 rfl) ?_
  refine lv_aload_n hx hb dJ7_copyOfRange_39247_5 rfl (lv_at hl 0 rfl) ?_
  refine va_alen (tys := gT G) (v := (nI k)) hx hb hE.K hP 0 2 rfl rfl rfl dJ7_copyOfRange_39247_6 ?_
  refine lv_icmp_eq (tgt := 17) hx hb dJ7_copyOfRange_39247_7 (by decide) (fun _ => ?_) (fun c_x => absurd rfl c_x)
  refine lv_aload_n hx hb dJ7_copyOfRange_39247_17 rfl (lv_at hl 0 rfl) ?_
  refine va_clone (ad := "[B") (tys := gT G) hx hb (by rw [hml]; exact hl.1.symm) hown (hw _ bw841) (hw _ bw842) (hw _ bw843) (hw _ bw844) (hw _ bw845) hE.1.2.2.2.2.2.2 hE.K hP hD hS hA 0 2 rfl rfl (va_nm_byte (hE.K.2 2 (gC G 2, .byte) rfl).2) (cl_fit hf) (Nat.le_of_ble_eq_true rfl) (Nat.le_of_ble_eq_true rfl) (Nat.le_of_ble_eq_true rfl) (by show 0 + k ≤ 34; omega) dJ7_copyOfRange_39247_18 (fun q9 H hK hP hD hS => ?_)
  have hP : va_P (gD G) vwCl [(v, .inl (gC G 2, k, .inl f)), (q9, .inl (gC G 2, k, .inl f))] H := hP
  have hD : va_D A [(v, .inl (gC G 2, k, .inl f)), (q9, .inl (gC G 2, k, .inl f))] := hD
  refine va_castA hx hb hown (hw _ bw847) hP 1 rfl (va_nm_byte (hE.K.2 2 (gC G 2, .byte) rfl).2) dJ7_copyOfRange_39247_21 ?_
  exact weA hx hb hr (Or.inr ⟨_, rfl⟩) hk ⟨q9, f, rfl, rfl, TX.rf hf⟩ hP hD hS (Nat.le_of_ble_eq_true rfl) (by show 0 + k ≤ 34; omega) dJ7_copyOfRange_39247_24

theorem s_copyR (l : Launch) (G : GT) (v w9 k : Nat) (f : Nat → Int32) (hm : w9 < 35) (hk9 : k < 35) (hkm : k ≤ w9) (hf : sb_Fit f) : WE l G yJ7_copyOfRange_39247 cJ7_copyOfRange_39247 3 (some (.array .byte)) 4 1 34 [.ref v, .int (0 : Int32), .int (nI k)] [(v, .inl (gC G 2, w9, .inl f))] (fun r wd => ∃ (q : Nat) (f1 : Nat → Int32), r = some (.ref q) ∧ wd = [(v, .inl (gC G 2, w9, .inl f)), (q, .inl (gC G 2, k, .inl f1))] ∧ TX f k f1) := by
  by_cases h : k = w9
  · subst h
    exact s_copyR_eq l G v k f hk9 hf
  · exact s_copyR_ne l G v w9 k f hm hk9 hkm hf h

set_option maxRecDepth 100000 in
set_option maxHeartbeats 4000000 in
theorem s_strInit2 (l : Launch) (G : GT) (t o v w9 k : Nat) (t8 f : Nat → Int32) (hm : w9 < 35) (hkm : k ≤ w9) (hf : TX t8 k f) : WE l G yJ0_init_db425 cJ0_init_db425 5 none 5 1 34 [.ref t, .ref o, .null] [(t, .inr (0, [.null, .int 0, .int 0, .int 0])), (o, .inr (1, [.ref v, .int 0, .int 0, .int (nI k)])), (v, .inl (gC G 2, w9, .inl f))] (fun r wd => r = none ∧ ∃ (u : Nat) (f1 : Nat → Int32), wd = [(t, .inr (0, [.ref u, .int 0, .int 0, .int 0])), (u, .inl (gC G 2, k, .inl f1))] ∧ TX t8 k f1) := by
  refine WE.ofW (own := RJ0) rfl (plainFor_of_name pnN_RJ0) (Nat.le_of_ble_eq_true rfl) ?_
  intro p e s m below meth c A C hr hk hnm hE hP hD hA hAB hS ls hl
  have hx := C.1
  have hb := C.2.1
  have hml := C.2.2.1
  have hown := C.2.2.2.1
  have hw := C.2.2.2.2
  have hl : lv_has ls 5 [(0, .ref t), (1, .ref o), (2, .null)] := hl
  refine lv_aload_n hx hb dJ0_init_db425_0 rfl (lv_at hl 0 rfl) ?_
  refine W.objInit hx hb hown (hw _ bw954) (hw _ bw84) (hw _ bw85) rfl (by rw [hml]; exact hl.1) rfl dJ0_init_db425_1 (Nat.le_of_ble_eq_true rfl) (Nat.le_of_ble_eq_true rfl) ?_
  refine W.eq (g2 := F0 m 4 ls []) rfl ?_
  refine lv_aload_n hx hb dJ0_init_db425_4 rfl (lv_at hl 1 rfl) ?_
  refine rcVf (st1 := [.ref v]) (as := []) (rest := []) (cl := RJ4) C (s_getValue l G o v w9 0 (nI k) f) F_J5_getValue_6d5f1 rfl bw955 bw956 (hw _ bw958) (hE.S hS hAB) (show va_P (gD G) vwCl [(o, .inr (1, [.ref v, .int 0, .int 0, .int (nI k)])), (v, .inl (gC G 2, w9, .inl f))] _ from hP.sub [1, 2] rfl) (rv1 hE.K hP (q0 := 1) rfl) hl.1 dJ0_init_db425_5 ⟨Nat.le_of_ble_eq_true rfl, Nat.le_of_ble_eq_true rfl⟩ rfl (Nat.le_of_ble_eq_true rfl) ⟨Nat.le_of_ble_eq_true rfl, Nat.le_of_ble_eq_true rfl⟩ rfl ?_
  refine lv_astore_n (lv' := [(3, .ref v), (0, .ref t), (1, .ref o), (2, .null)]) hx hb dJ0_init_db425_8 rfl hl (Nat.le_of_ble_eq_true rfl) rfl (fun ls hl => ?_)
  refine lv_aload_n hx hb dJ0_init_db425_9 rfl (lv_at hl 2 rfl) ?_
  refine rcVo (st1 := [.int (nI k)]) (as := []) (rest := []) (cl := RJ4) C (s_length4 l G o v w9 0 (nI k) f) F_J4_length_8abf5 rfl bw960 bw962 bw961 bw967 (by decide +kernel) rfl bw963 bw964 (hE.S hS hAB) (show va_P (gD G) vwCl [(o, .inr (1, [.ref v, .int 0, .int 0, .int (nI k)])), (v, .inl (gC G 2, w9, .inl f))] _ from hP.sub [1, 2] rfl) (rv1 hE.K hP (q0 := 1) rfl) hl.1 dJ0_init_db425_10 ⟨Nat.le_of_ble_eq_true rfl, Nat.le_of_ble_eq_true rfl⟩ rfl (Nat.le_of_ble_eq_true rfl) ⟨Nat.le_of_ble_eq_true rfl, Nat.le_of_ble_eq_true rfl⟩ rfl ?_
  refine lv_istore (lv' := [(4, .int (nI k)), (3, .ref v), (0, .ref t), (1, .ref o), (2, .null)]) hx hb dJ0_init_db425_13 hl (Nat.le_of_ble_eq_true rfl) rfl (fun ls hl => ?_)
  refine lv_aload_n hx hb dJ0_init_db425_15 rfl (lv_at hl 3 rfl) ?_
  refine rcVf (st1 := [.int (1 : Int32)]) (as := []) (rest := []) (cl := RJ4) C (s_isLatin1 l G o v w9 0 (nI k) f) F_J5_isLatin1_aae02 rfl bw968 bw853 (hw _ bw855) (hE.S hS hAB) (show va_P (gD G) vwCl [(o, .inr (1, [.ref v, .int 0, .int 0, .int (nI k)])), (v, .inl (gC G 2, w9, .inl f))] _ from hP.sub [1, 2] rfl) (rv1 hE.K hP (q0 := 1) rfl) hl.1 dJ0_init_db425_16 ⟨Nat.le_of_ble_eq_true rfl, Nat.le_of_ble_eq_true rfl⟩ rfl (Nat.le_of_ble_eq_true rfl) ⟨Nat.le_of_ble_eq_true rfl, Nat.le_of_ble_eq_true rfl⟩ rfl ?_
  refine lv_if_eq (tgt := 41) hx hb dJ0_init_db425_19 (by decide) (fun c_x => absurd c_x (by decide)) (fun _ => ?_)
  refine lv_aload_n hx hb dJ0_init_db425_22 rfl (lv_at hl 2 rfl) ?_
  refine lv_iconst (v := (0 : Int32)) hx hb dJ0_init_db425_23 qi_0 ?_
  refine va_putF (D := gD G) (cl := vwCl) (tys := gT G) (ci := 0) (v := .int (0 : Int32)) (ty := tyJ0 1) (C := RJ0) (T := TJ0) (N := 4) hx hb hw inB_J0 tyJ0 tyJ0_ok nmJ0 hown hE.K hP hD hS 0 rfl rfl 1 (by decide) (hw _ bw1064) (fun _ h9 => h9) rfl hnm rfl (by first | decide +kernel | rfl) rfl rfl (Nat.le_of_ble_eq_true rfl) dJ0_init_db425_24 (fun H locs hP hD hS => ?_)
  have hP : va_P (gD G) vwCl [(t, .inr (0, [.null, .int (0 : Int32), .int 0, .int 0])), (o, .inr (1, [.ref v, .int 0, .int 0, .int (nI k)])), (v, .inl (gC G 2, w9, .inl f))] H := hP
  have hD : va_D A [(t, .inr (0, [.null, .int (0 : Int32), .int 0, .int 0])), (o, .inr (1, [.ref v, .int 0, .int 0, .int (nI k)])), (v, .inl (gC G 2, w9, .inl f))] := hD
  refine lv_aload_n hx hb dJ0_init_db425_27 rfl (lv_at hl 2 rfl) ?_
  refine lv_aload_n hx hb dJ0_init_db425_28 rfl (lv_at hl 1 rfl) ?_
  refine lv_iconst (v := (0 : Int32)) hx hb dJ0_init_db425_29 qi_0 ?_
  refine lv_iload hx hb dJ0_init_db425_30 (lv_at hl 0 rfl) ?_
  have hP9 : va_P (gD G) vwCl ([(t, .inr (0, [.null, .int (0 : Int32), .int 0, .int 0])), (o, .inr (1, [.ref v, .int 0, .int 0, .int (nI k)]))] ++ [(v, .inl (gC G 2, w9, .inl f))]) _ := hP
  have hD9 : va_D A ([(t, .inr (0, [.null, .int (0 : Int32), .int 0, .int 0])), (o, .inr (1, [.ref v, .int 0, .int 0, .int (nI k)]))] ++ [(v, .inl (gC G 2, w9, .inl f))]) := hD
  refine weS (wr := [(t, .inr (0, [.null, .int (0 : Int32), .int 0, .int 0])), (o, .inr (1, [.ref v, .int 0, .int 0, .int (nI k)]))]) (wd := [(v, .inl (gC G 2, w9, .inl f))]) (as := [.ref v, .int (0 : Int32), .int (nI k)]) (rest := [.ref t]) C (s_copyR l G v w9 k f hm (by omega) hkm hf.1) F_J7_copyOfRange_39247 rfl bw969 bw970 (hE.S hS hAB) hP9 hD9 hS hA hAB hl.1 dJ0_init_db425_32 ⟨Nat.le_of_ble_eq_true rfl, Nat.le_of_ble_eq_true rfl⟩ rfl (Nat.le_of_ble_eq_true rfl) ⟨Nat.le_of_ble_eq_true rfl, Nat.le_of_ble_eq_true rfl⟩ (fun r9 wd9 H locs hp9 hP hD hS => ?_)
  obtain ⟨q9_32, f9_32, rfl, rfl, hf9_32⟩ := hp9
  have hP : va_P (gD G) vwCl [(t, .inr (0, [.null, .int (0 : Int32), .int 0, .int 0])), (o, .inr (1, [.ref v, .int 0, .int 0, .int (nI k)])), (v, .inl (gC G 2, w9, .inl f)), (q9_32, .inl (gC G 2, k, .inl f9_32))] H := hP
  have hD : va_D A [(t, .inr (0, [.null, .int (0 : Int32), .int 0, .int 0])), (o, .inr (1, [.ref v, .int 0, .int 0, .int (nI k)])), (v, .inl (gC G 2, w9, .inl f)), (q9_32, .inl (gC G 2, k, .inl f9_32))] := hD
  refine W.eq (g2 := F0 m 35 ls [.ref q9_32, .ref t]) rfl ?_
  refine va_putF (D := gD G) (cl := vwCl) (tys := gT G) (ci := 0) (v := .ref q9_32) (ty := tyJ0 0) (C := RJ0) (T := TJ0) (N := 4) hx hb hw inB_J0 tyJ0 tyJ0_ok nmJ0 hown hE.K hP hD hS 0 rfl rfl 0 (by decide) (hw _ bw1063) (fun _ h9 => h9) rfl hnm rfl (by first | decide +kernel | rfl) rfl rfl (Nat.le_of_ble_eq_true rfl) dJ0_init_db425_35 (fun H locs hP hD hS => ?_)
  have hP : va_P (gD G) vwCl [(t, .inr (0, [.ref q9_32, .int (0 : Int32), .int 0, .int 0])), (o, .inr (1, [.ref v, .int 0, .int 0, .int (nI k)])), (v, .inl (gC G 2, w9, .inl f)), (q9_32, .inl (gC G 2, k, .inl f9_32))] H := hP
  have hD : va_D A [(t, .inr (0, [.ref q9_32, .int (0 : Int32), .int 0, .int 0])), (o, .inr (1, [.ref v, .int 0, .int 0, .int (nI k)])), (v, .inl (gC G 2, w9, .inl f)), (q9_32, .inl (gC G 2, k, .inl f9_32))] := hD
  refine lv_goto (tgt := 97) hx hb dJ0_init_db425_38 (by decide) ?_
  exact we_v hx hb hr hk ⟨rfl, q9_32, _, rfl, hf.tr (Nat.le_refl _) hf9_32⟩ (hP.sub [0, 3] rfl) (hD.sub [0, 3] (by decide) rfl) hS (Nat.le_of_ble_eq_true rfl) (Nat.le_of_ble_eq_true rfl) dJ0_init_db425_97

set_option maxRecDepth 100000 in
set_option maxHeartbeats 4000000 in
theorem s_strInit (l : Launch) (G : GT) (t o v w9 k : Nat) (t8 f : Nat → Int32) (hm : w9 < 35) (hkm : k ≤ w9) (hf : TX t8 k f) : WE l G yJ0_init_81219 cJ0_init_81219 2 none 6 1 34 [.ref t, .ref o] [(t, .inr (0, [.null, .int 0, .int 0, .int 0])), (o, .inr (1, [.ref v, .int 0, .int 0, .int (nI k)])), (v, .inl (gC G 2, w9, .inl f))] (fun r wd => r = none ∧ ∃ (u : Nat) (f1 : Nat → Int32), wd = [(t, .inr (0, [.ref u, .int 0, .int 0, .int 0])), (u, .inl (gC G 2, k, .inl f1))] ∧ TX t8 k f1) := by
  refine WE.ofW (own := RJ0) rfl (plainFor_of_name pnN_RJ0) (Nat.le_of_ble_eq_true rfl) ?_
  intro p e s m below meth c A C hr hk hnm hE hP hD hA hAB hS ls hl
  have hx := C.1
  have hb := C.2.1
  have hml := C.2.2.1
  have hown := C.2.2.2.1
  have hw := C.2.2.2.2
  have hl : lv_has ls 2 [(0, .ref t), (1, .ref o)] := hl
  refine lv_aload_n hx hb dJ0_init_81219_0 rfl (lv_at hl 0 rfl) ?_
  refine lv_aload_n hx hb dJ0_init_81219_1 rfl (lv_at hl 1 rfl) ?_
  refine lv_aconst_null hx hb dJ0_init_81219_2 ?_
  have hP9 : va_P (gD G) vwCl ([] ++ [(t, .inr (0, [.null, .int 0, .int 0, .int 0])), (o, .inr (1, [.ref v, .int 0, .int 0, .int (nI k)])), (v, .inl (gC G 2, w9, .inl f))]) _ := hP
  have hD9 : va_D A ([] ++ [(t, .inr (0, [.null, .int 0, .int 0, .int 0])), (o, .inr (1, [.ref v, .int 0, .int 0, .int (nI k)])), (v, .inl (gC G 2, w9, .inl f))]) := hD
  refine weI (wr := []) (wd := [(t, .inr (0, [.null, .int 0, .int 0, .int 0])), (o, .inr (1, [.ref v, .int 0, .int 0, .int (nI k)])), (v, .inl (gC G 2, w9, .inl f))]) (as := [.ref o, .null]) (rest := []) C (s_strInit2 l G t o v w9 k t8 f hm hkm hf) F_J0_init_db425 rfl bw951 bw952 rfl (hE.S hS hAB) hP9 hD9 hS hA hAB hl.1 dJ0_init_81219_3 ⟨Nat.le_of_ble_eq_true rfl, Nat.le_of_ble_eq_true rfl⟩ rfl (Nat.le_of_ble_eq_true rfl) ⟨Nat.le_of_ble_eq_true rfl, Nat.le_of_ble_eq_true rfl⟩ (fun r9 wd9 H locs hp9 hP hD hS => ?_)
  obtain ⟨rfl, u9_3, f9_3, rfl, hx9_3⟩ := hp9
  have hP : va_P (gD G) vwCl [(t, .inr (0, [.ref u9_3, .int 0, .int 0, .int 0])), (u9_3, .inl (gC G 2, k, .inl f9_3))] H := hP
  have hD : va_D A [(t, .inr (0, [.ref u9_3, .int 0, .int 0, .int 0])), (u9_3, .inl (gC G 2, k, .inl f9_3))] := hD
  refine W.eq (g2 := F0 m 6 ls []) rfl ?_
  exact we_v hx hb hr hk ⟨rfl, u9_3, f9_3, rfl, hx9_3⟩ hP hD hS (Nat.le_of_ble_eq_true rfl) (Nat.le_of_ble_eq_true rfl) dJ0_init_81219_6

set_option maxRecDepth 100000 in
set_option maxHeartbeats 4000000 in
theorem s_toString (l : Launch) (G : GT) (o v w9 k : Nat) (t f : Nat → Int32) (hm : w9 < 35) (hkm : k ≤ w9) (hf : TX t k f) : WE l G yJ4_toString_0e30d cJ4_toString_0e30d 1 (some (.object "java/lang/String")) 7 2 38 [.ref o] [(o, .inr (1, [.ref v, .int 0, .int 0, .int (nI k)])), (v, .inl (gC G 2, w9, .inl f))] (fun r wd => ∃ (q u : Nat) (f1 : Nat → Int32), r = some (.ref q) ∧ wd = [(q, .inr (0, [.ref u, .int 0, .int 0, .int 0])), (u, .inl (gC G 2, k, .inl f1))] ∧ TX t k f1) := by
  refine WE.ofW (own := RJ4) rfl (plainFor_of_name pnN_RJ4) (Nat.le_of_ble_eq_true rfl) ?_
  intro p e s m below meth c A C hr hk hnm hE hP hD hA hAB hS ls hl
  have hx := C.1
  have hb := C.2.1
  have hml := C.2.2.1
  have hown := C.2.2.2.1
  have hw := C.2.2.2.2
  have hl : lv_has ls 1 [(0, .ref o)] := hl
  refine va_new (cl := vwCl) (tys := gT G) (ci := 0) (fs := [.null, .int 0, .int 0, .int 0]) (C := RJ0) (T := TJ0) (N := 4) hx hb hw inB_J0 tyJ0 tyJ0_ok hown (hw _ bw946) (hw _ bw947) (hw _ bw68) hE.K hP hD hS hA rfl (fun j hj => by rcases (show j = 0 ∨ j = 1 ∨ j = 2 ∨ j = 3 by omega) with rfl | rfl | rfl | rfl <;> rfl) (Nat.le_of_ble_eq_true rfl) (Nat.le_of_ble_eq_true rfl) dJ4_toString_0e30d_0 (fun q0 H hP hD hS => ?_)
  have hP : va_P (gD G) vwCl [(o, .inr (1, [.ref v, .int 0, .int 0, .int (nI k)])), (v, .inl (gC G 2, w9, .inl f)), (q0, .inr (0, [.null, .int 0, .int 0, .int 0]))] H := hP
  have hD : va_D A [(o, .inr (1, [.ref v, .int 0, .int 0, .int (nI k)])), (v, .inl (gC G 2, w9, .inl f)), (q0, .inr (0, [.null, .int 0, .int 0, .int 0]))] := hD
  refine lv_dup hx hb dJ4_toString_0e30d_3 rfl ?_
  refine lv_aload_n hx hb dJ4_toString_0e30d_4 rfl (lv_at hl 0 rfl) ?_
  have hP9 : va_P (gD G) vwCl ([] ++ [(q0, .inr (0, [.null, .int 0, .int 0, .int 0])), (o, .inr (1, [.ref v, .int 0, .int 0, .int (nI k)])), (v, .inl (gC G 2, w9, .inl f))]) _ := hP.sub [2, 0, 1] rfl
  have hD9 : va_D A ([] ++ [(q0, .inr (0, [.null, .int 0, .int 0, .int 0])), (o, .inr (1, [.ref v, .int 0, .int 0, .int (nI k)])), (v, .inl (gC G 2, w9, .inl f))]) := hD.sub [2, 0, 1] (by decide) rfl
  refine weI (wr := []) (wd := [(q0, .inr (0, [.null, .int 0, .int 0, .int 0])), (o, .inr (1, [.ref v, .int 0, .int 0, .int (nI k)])), (v, .inl (gC G 2, w9, .inl f))]) (as := [.ref o]) (rest := [.ref q0]) C (s_strInit l G q0 o v w9 k t f hm hkm hf) F_J0_init_81219 rfl bw948 bw949 rfl (hE.S hS hAB) hP9 hD9 hS hA hAB hl.1 dJ4_toString_0e30d_5 ⟨Nat.le_of_ble_eq_true rfl, Nat.le_of_ble_eq_true rfl⟩ rfl (Nat.le_of_ble_eq_true rfl) ⟨Nat.le_of_ble_eq_true rfl, Nat.le_of_ble_eq_true rfl⟩ (fun r9 wd9 H locs hp9 hP hD hS => ?_)
  obtain ⟨rfl, u9_5, f9_5, rfl, hx9_5⟩ := hp9
  have hP : va_P (gD G) vwCl [(q0, .inr (0, [.ref u9_5, .int 0, .int 0, .int 0])), (u9_5, .inl (gC G 2, k, .inl f9_5))] H := hP
  have hD : va_D A [(q0, .inr (0, [.ref u9_5, .int 0, .int 0, .int 0])), (u9_5, .inl (gC G 2, k, .inl f9_5))] := hD
  refine W.eq (g2 := F0 m 8 ls [.ref q0]) rfl ?_
  exact weA hx hb hr (Or.inl ⟨_, rfl⟩) hk ⟨q0, u9_5, f9_5, rfl, rfl, hx9_5⟩ hP hD hS (Nat.le_of_ble_eq_true rfl) (Nat.le_of_ble_eq_true rfl) dJ4_toString_0e30d_8
