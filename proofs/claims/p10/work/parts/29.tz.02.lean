theorem nI_prd (k : Nat) : nI (k + 1) - (1 : Int32) = nI k := by rw [← nI_1]; exact Int32.add_sub_cancel _ _

set_option maxRecDepth 100000 in
set_option maxHeartbeats 4000000 in
theorem rvLoop {p : Program} {l : Launch} {e : Env} {R : Room} {s : State} {m : MethodId} {args : Array Value} {below : List Frame} {meth : Method} {c : Code} {Q : State → Prop} {G : GT} {A : Nat → Prop} {cells slots : Nat} (C : CallFix p m c cJ5_reverse_278bc 7 s args BW RJ5) (hE : EV G s s.heap) (hA : ∀ q : Nat, s.heap.size ≤ q → A q) (hAB : ∀ q : Nat, A q → gB G ≤ q) {o v n k : Nat} (hk9 : k < 34) (hkn : k ≤ n) : ∀ (t : Nat) (f : Nat → Int32), t ≤ k / 2 → sb_Fit f → ∀ (H : Heap) (locs : List Loc), va_P (gD G) vwCl [(o, .inr (1, [.ref v, .int 0, .int 0, .int (nI k)])), (v, .inl (gC G 2, n, .inl f))] H → va_D A [(o, .inr (1, [.ref v, .int 0, .int 0, .int (nI k)])), (v, .inl (gC G 2, n, .inl f))] → va_S A s.heap H locs → ∀ ls : Array Slot, lv_has ls 7 [(4, .int ((nI t) - (1 : Int32))), (1, .ref v), (3, .int ((nI k) - (1 : Int32))), (0, .ref o)] → (∀ (f : Nat → Int32), sb_Fit f → ∀ (H : Heap) (locs : List Loc), va_P (gD G) vwCl [(o, .inr (1, [.ref v, .int 0, .int 0, .int (nI k)])), (v, .inl (gC G 2, n, .inl f))] H → va_D A [(o, .inr (1, [.ref v, .int 0, .int 0, .int (nI k)])), (v, .inl (gC G 2, n, .inl f))] → va_S A s.heap H locs → ∀ ls : Array Slot, lv_has ls 7 [(1, .ref v), (3, .int ((nI k) - (1 : Int32))), (0, .ref o)] → W p l e R s m args below meth c H locs cells slots Q (F0 m 65 ls [])) → W p l e R s m args below meth c H locs cells slots Q (F0 m 28 ls []) := by
  have hx := C.1
  have hb := C.2.1
  have hml := C.2.2.1
  have hown := C.2.2.2.1
  have hw := C.2.2.2.2
  intro t
  induction t with
  | zero =>
    intro f ht hf H locs hP hD hS ls hl kk
    refine lv_iload hx hb dJ5_reverse_278bc_28 (lv_at hl 0 rfl) ?_
    refine lv_if_lt (tgt := 65) hx hb dJ5_reverse_278bc_30 (by decide) (fun _ => ?_) (fun c_x => absurd rv_neg0 c_x)
    exact kk f hf H locs hP hD hS ls (lv_sub hl [1, 2, 3] rfl)
  | succ t ih =>
    intro f ht hf H locs hP hD hS ls hl kk
    refine lv_iload hx hb dJ5_reverse_278bc_28 (lv_at hl 0 rfl) ?_
    refine lv_if_lt (tgt := 65) hx hb dJ5_reverse_278bc_30 (by decide) (fun c_x => absurd c_x (rv_negS (by omega))) (fun _ => ?_)
    refine lv_iload_n hx hb dJ5_reverse_278bc_33 rfl (lv_at hl 2 rfl) ?_
    refine lv_iload hx hb dJ5_reverse_278bc_34 (lv_at hl 0 rfl) ?_
    refine lv_isub hx hb dJ5_reverse_278bc_36 ?_
    refine lv_istore (lv' := [(5, .int (((nI k) - (1 : Int32)) - ((nI (t + 1)) - (1 : Int32)))), (4, .int ((nI (t + 1)) - (1 : Int32))), (1, .ref v), (3, .int ((nI k) - (1 : Int32))), (0, .ref o)]) hx hb dJ5_reverse_278bc_37 hl (Nat.le_of_ble_eq_true rfl) rfl (fun ls hl => ?_)
    refine lv_aload_n hx hb dJ5_reverse_278bc_39 rfl (lv_at hl 2 rfl) ?_
    refine lv_iload hx hb dJ5_reverse_278bc_40 (lv_at hl 1 rfl) ?_
    refine va_bald (tys := gT G) hx hb hE.K hP 1 2 rfl rfl (vin_mono (rev_in k hk9 (t + 1) ht (by omega)).1 hkn) dJ5_reverse_278bc_42 ?_
    refine lv_istore (lv' := [(6, .int (f ((nI (t + 1)) - (1 : Int32)).toNatClampNeg)), (5, .int (((nI k) - (1 : Int32)) - ((nI (t + 1)) - (1 : Int32)))), (4, .int ((nI (t + 1)) - (1 : Int32))), (1, .ref v), (3, .int ((nI k) - (1 : Int32))), (0, .ref o)]) hx hb dJ5_reverse_278bc_43 hl (Nat.le_of_ble_eq_true rfl) rfl (fun ls hl => ?_)
    refine lv_aload_n hx hb dJ5_reverse_278bc_45 rfl (lv_at hl 3 rfl) ?_
    refine lv_iload hx hb dJ5_reverse_278bc_46 (lv_at hl 2 rfl) ?_
    refine lv_aload_n hx hb dJ5_reverse_278bc_48 rfl (lv_at hl 3 rfl) ?_
    refine lv_iload hx hb dJ5_reverse_278bc_49 (lv_at hl 1 rfl) ?_
    refine va_bald (tys := gT G) hx hb hE.K hP 1 2 rfl rfl (vin_mono (rev_in k hk9 (t + 1) ht (by omega)).2 hkn) dJ5_reverse_278bc_51 ?_
    refine va_bast (tys := gT G) hx hb hE.K hP hD hS 1 2 rfl rfl (vin_mono (rev_in k hk9 (t + 1) ht (by omega)).1 hkn) dJ5_reverse_278bc_52 (fun H locs hP hD hS => ?_)
    have hP : va_P (gD G) vwCl [(o, .inr (1, [.ref v, .int 0, .int 0, .int (nI k)])), (v, .inl (gC G 2, n, .inl (upd f ((nI (t + 1)) - (1 : Int32)).toNatClampNeg (vp_nar .byte (f (((nI k) - (1 : Int32)) - ((nI (t + 1)) - (1 : Int32))).toNatClampNeg)))))] H := hP
    have hD : va_D A [(o, .inr (1, [.ref v, .int 0, .int 0, .int (nI k)])), (v, .inl (gC G 2, n, .inl (upd f ((nI (t + 1)) - (1 : Int32)).toNatClampNeg (vp_nar .byte (f (((nI k) - (1 : Int32)) - ((nI (t + 1)) - (1 : Int32))).toNatClampNeg)))))] := hD
    refine lv_aload_n hx hb dJ5_reverse_278bc_53 rfl (lv_at hl 3 rfl) ?_
    refine lv_iload hx hb dJ5_reverse_278bc_54 (lv_at hl 1 rfl) ?_
    refine lv_iload hx hb dJ5_reverse_278bc_56 (lv_at hl 0 rfl) ?_
    refine va_bast (tys := gT G) hx hb hE.K hP hD hS 1 2 rfl rfl (vin_mono (rev_in k hk9 (t + 1) ht (by omega)).2 hkn) dJ5_reverse_278bc_58 (fun H locs hP hD hS => ?_)
    have hP : va_P (gD G) vwCl [(o, .inr (1, [.ref v, .int 0, .int 0, .int (nI k)])), (v, .inl (gC G 2, n, .inl (upd (upd f ((nI (t + 1)) - (1 : Int32)).toNatClampNeg (vp_nar .byte (f (((nI k) - (1 : Int32)) - ((nI (t + 1)) - (1 : Int32))).toNatClampNeg))) (((nI k) - (1 : Int32)) - ((nI (t + 1)) - (1 : Int32))).toNatClampNeg (vp_nar .byte (f ((nI (t + 1)) - (1 : Int32)).toNatClampNeg)))))] H := hP
    have hD : va_D A [(o, .inr (1, [.ref v, .int 0, .int 0, .int (nI k)])), (v, .inl (gC G 2, n, .inl (upd (upd f ((nI (t + 1)) - (1 : Int32)).toNatClampNeg (vp_nar .byte (f (((nI k) - (1 : Int32)) - ((nI (t + 1)) - (1 : Int32))).toNatClampNeg))) (((nI k) - (1 : Int32)) - ((nI (t + 1)) - (1 : Int32))).toNatClampNeg (vp_nar .byte (f ((nI (t + 1)) - (1 : Int32)).toNatClampNeg)))))] := hD
    refine lv_iinc (v := ((nI t) - (1 : Int32))) (lv' := [(4, .int ((nI t) - (1 : Int32))), (6, .int (f ((nI (t + 1)) - (1 : Int32)).toNatClampNeg)), (5, .int (((nI k) - (1 : Int32)) - ((nI (t + 1)) - (1 : Int32)))), (1, .ref v), (3, .int ((nI k) - (1 : Int32))), (0, .ref o)]) hx hb dJ5_reverse_278bc_59 hl (k := 2) rfl (rv_dec t) (Nat.le_of_ble_eq_true rfl) rfl (fun ls hl => ?_)
    refine lv_goto (tgt := 28) hx hb dJ5_reverse_278bc_62 (by decide) ?_
    exact ih _ (by omega) (sb_fitU (sb_fitU hf (fit_nar _)) (fit_nar _)) H locs hP hD hS ls (lv_sub hl [0, 3, 4, 5] rfl) kk

