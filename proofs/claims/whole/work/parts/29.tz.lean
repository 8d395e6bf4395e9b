theorem rv_neg0 : (nI 0 - (1 : Int32)) < 0 := by decide
theorem rv_negS {t : Nat} (h : t < 34) : ¬ (nI (t + 1) - (1 : Int32)) < 0 := by
  have k : ∀ t : Nat, t < 34 → ¬ (nI (t + 1) - (1 : Int32)) < 0 := by decide +kernel
  exact k t h
theorem rv_dec (t : Nat) : (nI (t + 1) - (1 : Int32)) + Int32.ofInt (-1) = nI t - (1 : Int32) := by
  rw [← nI_1]
  have e : nI t + 1 - (1 : Int32) = nI t := Int32.add_sub_cancel _ _
  have e3 : Int32.ofInt (-1) = -(1 : Int32) := by decide
  rw [e, e3, ← Int32.sub_eq_add_neg]
theorem ce_val {v : Int64} (h1 : 48 ≤ v.toInt) (h2 : v.toInt ≤ 57) : fJ1_canEncode_fc78d (((v.toInt32).toUInt32 % 65536).toInt32) = 1 := by
  have k : v = 48 ∨ v = 49 ∨ v = 50 ∨ v = 51 ∨ v = 52 ∨ v = 53 ∨ v = 54 ∨ v = 55 ∨ v = 56 ∨ v = 57 := by
    have e : ∀ z : Int, v.toInt = z → v = Int64.ofInt z := fun z q => by rw [← q, Int64.ofInt_toInt]
    have c : v.toInt = 48 ∨ v.toInt = 49 ∨ v.toInt = 50 ∨ v.toInt = 51 ∨ v.toInt = 52 ∨ v.toInt = 53 ∨ v.toInt = 54 ∨ v.toInt = 55 ∨ v.toInt = 56 ∨ v.toInt = 57 := by omega
    rcases c with c | c | c | c | c | c | c | c | c | c <;> have e2 := e _ c <;> subst e2 <;> decide
  rcases k with rfl | rfl | rfl | rfl | rfl | rfl | rfl | rfl | rfl | rfl <;> decide
theorem md10 (r : Int64) : (fJ9_abs_067f4 (r - r / (10 : Int64) * (10 : Int64))).toInt ≤ 9 ∧ 0 ≤ (fJ9_abs_067f4 (r - r / (10 : Int64) * (10 : Int64))).toInt := by
  have hr := fb_rngL r
  have e0 : (10 : Int64).toInt = 10 := by decide
  have e1 : (r / (10 : Int64)).toInt = r.toInt.tdiv 10 := by rw [Int64.toInt_div_of_ne_right _ _ (by decide), e0]
  have b1 : r.toInt.tdiv 10 * 10 ≤ 9 + r.toInt.natAbs ∧ -(9 + (r.toInt.natAbs : Int)) ≤ r.toInt.tdiv 10 * 10 ∧ (r.toInt - r.toInt.tdiv 10 * 10) ≤ 9 ∧ -9 ≤ (r.toInt - r.toInt.tdiv 10 * 10) ∧ -9223372036854775808 ≤ r.toInt.tdiv 10 * 10 ∧ r.toInt.tdiv 10 * 10 < 9223372036854775808 := by
    rcases Int.le_total 0 r.toInt with h | h
    · rw [tdivP h]; omega
    · rw [tdivN h]; omega
  have e2 : (r / (10 : Int64) * (10 : Int64)).toInt = r.toInt.tdiv 10 * 10 := by
    rw [fb_mulL (by rw [e1, e0]; omega) (by rw [e1, e0]; omega), e1, e0]
  have e3 : (r - r / (10 : Int64) * (10 : Int64)).toInt = r.toInt - r.toInt.tdiv 10 * 10 := by
    rw [fb_subL (by rw [e2]; omega) (by rw [e2]; omega), e2]
  unfold fJ9_abs_067f4
  by_cases h : 0 ≤ lg_cmp (r - r / (10 : Int64) * (10 : Int64)) (0 : Int64)
  · rw [if_pos h]
    have h2 := lgc_ge.mp h
    rw [show (0 : Int64).toInt = 0 from by decide] at h2
    omega
  · rw [if_neg h]
    have h2 : ¬ 0 ≤ (r - r / (10 : Int64) * (10 : Int64)).toInt := fun z => h (lgc_ge.mpr (by rw [show (0 : Int64).toInt = 0 from by decide]; exact z))
    rw [Int64.toInt_neg, fb_bmodL (by omega) (by omega)]
    omega
theorem ce_dig (r : Int64) : fJ1_canEncode_fc78d (((((48 : Int64) + (fJ9_abs_067f4 (r - r / (10 : Int64) * (10 : Int64)))).toInt32).toUInt32 % 65536).toInt32) = 1 := by
  have h := md10 r
  have e : ((48 : Int64) + (fJ9_abs_067f4 (r - r / (10 : Int64) * (10 : Int64)))).toInt = 48 + (fJ9_abs_067f4 (r - r / (10 : Int64) * (10 : Int64))).toInt := by
    rw [fb_addL (by rw [show (48 : Int64).toInt = 48 from by decide]; omega) (by rw [show (48 : Int64).toInt = 48 from by decide]; omega)]
    rfl
  exact ce_val (by omega) (by omega)
theorem dv10 (x : Int64) : (x / (10 : Int64)).toInt.natAbs = x.toInt.natAbs / 10 := by
  rw [Int64.toInt_div_of_ne_right _ _ (by decide), show (10 : Int64).toInt = 10 from by decide, Int.natAbs_tdiv]
  rfl

theorem md10v (r : Int64) : (fJ9_abs_067f4 (r - r / (10 : Int64) * (10 : Int64))).toInt = ((r.toInt.natAbs % 10 : Nat) : Int) := by
  have hr := fb_rngL r
  have e0 : (10 : Int64).toInt = 10 := by decide
  have e1 : (r / (10 : Int64)).toInt = r.toInt.tdiv 10 := by rw [Int64.toInt_div_of_ne_right _ _ (by decide), e0]
  have b : (0 ≤ r.toInt ∧ r.toInt.tdiv 10 = r.toInt / 10) ∨ (r.toInt ≤ 0 ∧ r.toInt.tdiv 10 = -((-r.toInt) / 10)) := by
    rcases Int.le_total 0 r.toInt with h | h
    · exact Or.inl ⟨h, tdivP h 10⟩
    · exact Or.inr ⟨h, tdivN h 10⟩
  have e2 : (r / (10 : Int64) * (10 : Int64)).toInt = r.toInt.tdiv 10 * 10 := by
    rw [fb_mulL (by rw [e1, e0]; omega) (by rw [e1, e0]; omega), e1, e0]
  have e3 : (r - r / (10 : Int64) * (10 : Int64)).toInt = r.toInt - r.toInt.tdiv 10 * 10 := by
    rw [fb_subL (by rw [e2]; omega) (by rw [e2]; omega), e2]
  unfold fJ9_abs_067f4
  by_cases h : 0 ≤ lg_cmp (r - r / (10 : Int64) * (10 : Int64)) (0 : Int64)
  · rw [if_pos h]
    have h2 := lgc_ge.mp h
    rw [show (0 : Int64).toInt = 0 from by decide] at h2
    omega
  · rw [if_neg h]
    have h2 : ¬ 0 ≤ (r - r / (10 : Int64) * (10 : Int64)).toInt := fun z => h (lgc_ge.mpr (by rw [show (0 : Int64).toInt = 0 from by decide]; exact z))
    rw [Int64.toInt_neg, fb_bmodL (by omega) (by omega)]
    omega
theorem dig_c (y : Int64) : vp_nar .byte ((((((48 : Int64) + (fJ9_abs_067f4 (y - y / (10 : Int64) * (10 : Int64)))).toInt32).toUInt32 % 65536).toInt32).toInt8.toInt32) = nI (48 + y.toInt.natAbs % 10) := by
  have h := md10v y
  have hm := Nat.mod_lt y.toInt.natAbs (show 0 < 10 by decide)
  refine ch_val hm ?_
  rw [fb_addL (by rw [show (48 : Int64).toInt = 48 from by decide]; omega) (by rw [show (48 : Int64).toInt = 48 from by decide]; omega), h]
  rfl
theorem dig_y {y : Int64} {N i : Nat} (hy : y.toInt.natAbs = N / 10 ^ i) : vp_nar .byte ((((((48 : Int64) + (fJ9_abs_067f4 (y - y / (10 : Int64) * (10 : Int64)))).toInt32).toUInt32 % 65536).toInt32).toInt8.toInt32) = dg N i := by
  rw [dig_c, hy]
  rfl
theorem dig_n {y : Int64} {N i : Nat} (hy : y.toInt.natAbs = N / 10 ^ i) : (y / (10 : Int64)).toInt.natAbs = N / 10 ^ (i + 1) := by rw [dv10, hy, Nat.div_div_eq_div_mul, ← Nat.pow_succ]
/-- the turned digits, without a sign and with one -/
theorem tT_p {N k : Nat} {f : Nat → Int32} (h : TX (fun i => dg N (k - 1 - i)) k f) : TX (tT N k 0) (k + 0) f := h.cg (fun j _ => (if_neg (Nat.not_lt_zero j)).symm)
theorem tT_n {N k : Nat} {c : Int32} {f : Nat → Int32} (hc : c = 45) (h : TX (fun i => (upd (dg N) k c) (k + 1 - 1 - i)) (k + 1) f) : TX (tT N k 1) (k + 1) f := h.cg (fun j hj => by
  subst hc
  show (if k + 1 - 1 - j = k then (45 : Int32) else dg N (k + 1 - 1 - j)) = (if j < 1 then (45 : Int32) else dg N (k + 1 - 1 - j))
  by_cases e : j < 1
  · rw [if_pos e, if_pos (by omega)]
  · rw [if_neg e, if_neg (by omega)])

/-- the steps of digitCount -/
def DC : Nat → Int64 → Int32 → Int32
  | 0, _, c => c
  | n + 1, x, c => if (lg_cmp (x / (10 : Int64)) (0 : Int64)) = 0 then c else DC n (x / (10 : Int64)) (c + (1 : Int32))
theorem DC_eq (x : Int64) : fX0_digitCount x = DC 18 x (if 0 ≤ (lg_cmp x (0 : Int64)) then (1 : Int32) else (2 : Int32)) := rfl
theorem DC_spec : ∀ (n : Nat) (x : Int64) (c : Int32) (k : Nat), 1 ≤ k → k ≤ n + 1 → x.toInt.natAbs < 10 ^ k → (k = 1 ∨ 10 ^ (k - 1) ≤ x.toInt.natAbs) → DC n x c = c + nI (k - 1) := by
  intro n
  induction n with
  | zero =>
    intro x c k h1 h2 h3 h4
    have e : k = 1 := by omega
    subst e
    show c = c + nI 0
    rw [nI_0, Int32.add_zero]
  | succ n ih =>
    intro x c k h1 h2 h3 h4
    have hd := dv10 x
    have z0 : (0 : Int64).toInt = 0 := by decide
    by_cases hc : (lg_cmp (x / (10 : Int64)) (0 : Int64)) = 0
    · have e := lgc_eq.mp hc
      rw [z0] at e
      rw [e] at hd
      have hd : 0 = x.toInt.natAbs / 10 := hd
      have hk : k = 1 := by
        rcases h4 with q | q
        · exact q
        · rcases Nat.lt_or_ge 1 k with r | r
          · exfalso
            have h5 : 10 ^ 1 ≤ 10 ^ (k - 1) := Nat.pow_le_pow_right (by decide) (by omega)
            have h6 : (10 : Nat) ^ 1 = 10 := by decide
            omega
          · omega
      subst hk
      refine Eq.trans (if_pos hc) ?_
      show c = c + nI 0
      rw [nI_0, Int32.add_zero]
    · have f : ¬ x.toInt.natAbs / 10 = 0 := fun z => hc (lgc_eq.mpr (by rw [z0]; exact Int.natAbs_eq_zero.mp (hd.trans z)))
      obtain ⟨j, rfl⟩ : ∃ j, k = j + 1 := ⟨k - 1, by omega⟩
      have hj : 1 ≤ j := by
        rcases Nat.eq_zero_or_pos j with r | r
        · exfalso
          subst r
          have h6 : (10 : Nat) ^ (0 + 1) = 10 := by decide
          omega
        · exact r
      have h5 : (x / (10 : Int64)).toInt.natAbs < 10 ^ j := by
        rw [hd]
        exact Nat.div_lt_of_lt_mul (by rw [Nat.mul_comm, ← Nat.pow_succ]; exact h3)
      have h6 : j = 1 ∨ 10 ^ (j - 1) ≤ (x / (10 : Int64)).toInt.natAbs := by
        rcases Nat.lt_or_ge 1 j with r | r
        · refine Or.inr ?_
          rw [hd]
          rcases h4 with q | q
          · omega
          · refine (Nat.le_div_iff_mul_le (by decide)).mpr ?_
            have h8 : (10 : Nat) ^ (j + 1 - 1) = 10 ^ (j - 1) * 10 := by
              rw [← Nat.pow_succ]
              exact congrArg (fun q : Nat => (10 : Nat) ^ q) (by omega)
            rw [← h8]
            exact q
        · exact Or.inl (by omega)
      refine Eq.trans (if_neg hc) ?_
      rw [ih (x / (10 : Int64)) (c + (1 : Int32)) j hj (by omega) h5 h6, Int32.add_assoc]
      have e1 : (1 : Int32) + nI (j - 1) = nI (1 + (j - 1)) := nI_add 1 (j - 1)
      rw [e1]
      exact congrArg (fun q : Nat => c + nI q) (by omega)
theorem dc_SS {x : Int64} {k d : Nat} (hs : SS x k d) : fX0_digitCount x = nI (k + d) := by
  obtain ⟨s1, s2, s3, s4, s5, -⟩ := hs
  have z0 : (0 : Int64).toInt = 0 := by decide
  have hsg : (if 0 ≤ (lg_cmp x (0 : Int64)) then (1 : Int32) else (2 : Int32)) = nI (1 + d) := by
    rcases s3 with ⟨g, rfl⟩ | ⟨g, rfl⟩
    · rw [if_neg (fun z => absurd (lgc_ge.mp z) (by rw [z0]; omega))]; rfl
    · rw [if_pos (lgc_ge.mpr (by rw [z0]; exact g))]; rfl
  rw [DC_eq, DC_spec 18 x _ k s1 s2 s4 s5, hsg, nI_add]
  exact congrArg nI (by omega)

theorem nI_prd (k : Nat) : nI (k + 1) - (1 : Int32) = nI k := by rw [← nI_1]; exact Int32.add_sub_cancel _ _

set_option maxRecDepth 100000 in
set_option maxHeartbeats 4000000 in
theorem rvLoop {p : Program} {l : Launch} {e : Env} {R : Room} {s : State} {m : MethodId} {args : Array Value} {below : List Frame} {meth : Method} {c : Code} {Q : State → Prop} {G : GT} {A : Nat → Prop} {cells slots : Nat} (C : CallFix p m c cJ5_reverse_278bc 7 s args BW RJ5) (hE : EV G s s.heap) (hA : ∀ q : Nat, s.heap.size ≤ q → A q) (hAB : ∀ q : Nat, A q → gB G ≤ q) {o v n k : Nat} {f0 : Nat → Int32} (hk9 : k < 34) (hkn : k ≤ n) : ∀ (t : Nat) (f : Nat → Int32), t ≤ k / 2 → sb_Fit f → RV k t f0 f → ∀ (H : Heap) (locs : List Loc), va_P (gD G) vwCl [(o, .inr (1, [.ref v, .int 0, .int 0, .int (nI k)])), (v, .inl (gC G 2, n, .inl f))] H → va_D A [(o, .inr (1, [.ref v, .int 0, .int 0, .int (nI k)])), (v, .inl (gC G 2, n, .inl f))] → va_S A s.heap H locs → ∀ ls : Array Slot, lv_has ls 7 [(4, .int ((nI t) - (1 : Int32))), (1, .ref v), (3, .int ((nI k) - (1 : Int32))), (0, .ref o)] → (∀ (f : Nat → Int32), sb_Fit f → RV k 0 f0 f → ∀ (H : Heap) (locs : List Loc), va_P (gD G) vwCl [(o, .inr (1, [.ref v, .int 0, .int 0, .int (nI k)])), (v, .inl (gC G 2, n, .inl f))] H → va_D A [(o, .inr (1, [.ref v, .int 0, .int 0, .int (nI k)])), (v, .inl (gC G 2, n, .inl f))] → va_S A s.heap H locs → ∀ ls : Array Slot, lv_has ls 7 [(1, .ref v), (3, .int ((nI k) - (1 : Int32))), (0, .ref o)] → W p l e R s m args below meth c H locs cells slots Q (F0 m 65 ls [])) → W p l e R s m args below meth c H locs cells slots Q (F0 m 28 ls []) := by
  have hx := C.1
  have hb := C.2.1
  have hml := C.2.2.1
  have hown := C.2.2.2.1
  have hw := C.2.2.2.2
  intro t
  induction t with
  | zero =>
    intro f ht hf hV H locs hP hD hS ls hl kk
    refine lv_iload hx hb dJ5_reverse_278bc_28 (lv_at hl 0 rfl) ?_
    refine lv_if_lt (tgt := 65) hx hb dJ5_reverse_278bc_30 (by decide) (fun _ => ?_) (fun c_x => absurd rv_neg0 c_x)
    exact kk f hf hV H locs hP hD hS ls (lv_sub hl [1, 2, 3] rfl)
  | succ t ih =>
    intro f ht hf hV H locs hP hD hS ls hl kk
    refine lv_iload hx hb dJ5_reverse_278bc_28 (lv_at hl 0 rfl) ?_
    refine lv_if_lt (tgt := 65) hx hb dJ5_reverse_278bc_30 (by decide) (fun c_x => absurd c_x (rv_negS (by omega))) (fun _ => ?_)
    refine lv_iload_n hx hb dJ5_reverse_278bc_33 rfl (lv_at hl 2 rfl) ?_
    refine lv_iload hx hb dJ5_reverse_278bc_34 (lv_at hl 0 rfl) ?_
    refine lv_isub hx hb dJ5_reverse_278bc_36 ?_
    refine lv_istore (lv' := [(5, .int (((nI k) - (1 : Int32)) - ((nI (t + 1)) - (1 : Int32)))), (4, .int ((nI (t + 1)) - (1 : Int32))), (1, .ref v), (3, .int ((nI k) - (1 : Int32))), (0, .ref o)]) hx hb dJ5_reverse_278bc_37 hl (Nat.le_of_ble_eq_true rfl) rfl (fun ls hl => ?_)
    refine lv_aload_n hx hb dJ5_reverse_278bc_39 rfl (lv_at hl 2 rfl) ?_
    refine lv_iload hx hb dJ5_reverse_278bc_40 (lv_at hl 1 rfl) ?_
    refine va_bald (tys := gT G) hx hb hE.K hP 1 2 rfl rfl (vin_mono (rev_in k hk9 (t + 1) ht (by omega)).1 hkn) dJ5_reverse_278bc_42 ?_
    refine lv_istore (lv' := [(6, .int (f ((nI (t + 1)) - (1 : Int32)).toNatClampNeg)), (5, .int (((nI k) - (1 : Int32)) - ((nI (t + 1)) - (1 : Int32)))), (4, .int ((nI (t + 1)) - (1 : Int32))), (1, .ref v), (3, .int ((nI k) - (1 : Int32))), (0, .ref o)]) hx hb dJ5_reverse_278bc_43 hl (Nat.le_of_ble_eq_true rfl) rfl (fun ls hl => ?_)
    refine lv_aload_n hx hb dJ5_reverse_278bc_45 rfl (lv_at hl 3 rfl) ?_
    refine lv_iload hx hb dJ5_reverse_278bc_46 (lv_at hl 2 rfl) ?_
    refine lv_aload_n hx hb dJ5_reverse_278bc_48 rfl (lv_at hl 3 rfl) ?_
    refine lv_iload hx hb dJ5_reverse_278bc_49 (lv_at hl 1 rfl) ?_
    refine va_bald (tys := gT G) hx hb hE.K hP 1 2 rfl rfl (vin_mono (rev_in k hk9 (t + 1) ht (by omega)).2 hkn) dJ5_reverse_278bc_51 ?_
    refine va_bast (tys := gT G) hx hb hE.K hP hD hS 1 2 rfl rfl (vin_mono (rev_in k hk9 (t + 1) ht (by omega)).1 hkn) dJ5_reverse_278bc_52 (fun H locs hP hD hS => ?_)
    have hP : va_P (gD G) vwCl [(o, .inr (1, [.ref v, .int 0, .int 0, .int (nI k)])), (v, .inl (gC G 2, n, .inl (upd f ((nI (t + 1)) - (1 : Int32)).toNatClampNeg (vp_nar .byte (f (((nI k) - (1 : Int32)) - ((nI (t + 1)) - (1 : Int32))).toNatClampNeg)))))] H := hP
    have hD : va_D A [(o, .inr (1, [.ref v, .int 0, .int 0, .int (nI k)])), (v, .inl (gC G 2, n, .inl (upd f ((nI (t + 1)) - (1 : Int32)).toNatClampNeg (vp_nar .byte (f (((nI k) - (1 : Int32)) - ((nI (t + 1)) - (1 : Int32))).toNatClampNeg)))))] := hD
    refine lv_aload_n hx hb dJ5_reverse_278bc_53 rfl (lv_at hl 3 rfl) ?_
    refine lv_iload hx hb dJ5_reverse_278bc_54 (lv_at hl 1 rfl) ?_
    refine lv_iload hx hb dJ5_reverse_278bc_56 (lv_at hl 0 rfl) ?_
    refine va_bast (tys := gT G) hx hb hE.K hP hD hS 1 2 rfl rfl (vin_mono (rev_in k hk9 (t + 1) ht (by omega)).2 hkn) dJ5_reverse_278bc_58 (fun H locs hP hD hS => ?_)
    have hP : va_P (gD G) vwCl [(o, .inr (1, [.ref v, .int 0, .int 0, .int (nI k)])), (v, .inl (gC G 2, n, .inl (upd (upd f ((nI (t + 1)) - (1 : Int32)).toNatClampNeg (vp_nar .byte (f (((nI k) - (1 : Int32)) - ((nI (t + 1)) - (1 : Int32))).toNatClampNeg))) (((nI k) - (1 : Int32)) - ((nI (t + 1)) - (1 : Int32))).toNatClampNeg (vp_nar .byte (f ((nI (t + 1)) - (1 : Int32)).toNatClampNeg)))))] H := hP
    have hD : va_D A [(o, .inr (1, [.ref v, .int 0, .int 0, .int (nI k)])), (v, .inl (gC G 2, n, .inl (upd (upd f ((nI (t + 1)) - (1 : Int32)).toNatClampNeg (vp_nar .byte (f (((nI k) - (1 : Int32)) - ((nI (t + 1)) - (1 : Int32))).toNatClampNeg))) (((nI k) - (1 : Int32)) - ((nI (t + 1)) - (1 : Int32))).toNatClampNeg (vp_nar .byte (f ((nI (t + 1)) - (1 : Int32)).toNatClampNeg)))))] := hD
    refine lv_iinc (v := ((nI t) - (1 : Int32))) (lv' := [(4, .int ((nI t) - (1 : Int32))), (6, .int (f ((nI (t + 1)) - (1 : Int32)).toNatClampNeg)), (5, .int (((nI k) - (1 : Int32)) - ((nI (t + 1)) - (1 : Int32)))), (1, .ref v), (3, .int ((nI k) - (1 : Int32))), (0, .ref o)]) hx hb dJ5_reverse_278bc_59 hl (k := 2) rfl (rv_dec t) (Nat.le_of_ble_eq_true rfl) rfl (fun ls hl => ?_)
    refine lv_goto (tgt := 28) hx hb dJ5_reverse_278bc_62 (by decide) ?_
    exact ih _ (by omega) (sb_fitU (sb_fitU hf (fit_nar _)) (fit_nar _)) (hV.step hf hk9 ht) H locs hP hD hS ls (lv_sub hl [0, 3, 4, 5] rfl) kk

set_option maxRecDepth 100000 in
set_option maxHeartbeats 4000000 in
theorem s_rev5 (l : Launch) (G : GT) (o v w9 k : Nat) (t f : Nat → Int32) (hm : mOK w9) (hk9 : k < 34) (hkm : k ≤ w9) (hf : TX t k f) : WE l G yJ5_reverse_278bc cJ5_reverse_278bc 7 (some (.object "java/lang/AbstractStringBuilder")) 2 0 0 [.ref o] [(o, .inr (1, [.ref v, .int 0, .int 0, .int (nI k)])), (v, .inl (gC G 2, w9, .inl f))] (fun r wd => r = some (.ref o) ∧ BD G o k (fun i => t (k - 1 - i)) wd) := by
  refine WE.ofW (own := RJ5) rfl (plainFor_of_name pnN_RJ5) (Nat.le_of_ble_eq_true rfl) ?_
  intro p e s m below meth c A C hr hk hnm hE hP hD hA hAB hS ls hl
  have hx := C.1
  have hb := C.2.1
  have hml := C.2.2.1
  have hown := C.2.2.2.1
  have hw := C.2.2.2.2
  have hl : lv_has ls 7 [(0, .ref o)] := hl
  refine lv_aload_n hx hb dJ5_reverse_278bc_0 rfl (lv_at hl 0 rfl) ?_
  refine va_get (D := gD G) (cl := vwCl) (tys := gT G) (ci := 1) (v := .ref v) (C := RJ4) (T := TJ4) (N := 4) hx hb hw inB_J4 hown hE.K hP 0 rfl rfl 0 (by decide) (hw _ bw795) (fun _ h9 => h9) rfl dJ5_reverse_278bc_1 ?_
  refine lv_astore_n (lv' := [(1, .ref v), (0, .ref o)]) hx hb dJ5_reverse_278bc_4 rfl hl (Nat.le_of_ble_eq_true rfl) rfl (fun ls hl => ?_)
  refine lv_aload_n hx hb dJ5_reverse_278bc_5 rfl (lv_at hl 1 rfl) ?_
  refine va_get (D := gD G) (cl := vwCl) (tys := gT G) (ci := 1) (v := .int (nI k)) (C := RJ4) (T := TJ4) (N := 4) hx hb hw inB_J4 hown hE.K hP 0 rfl rfl 3 (by decide) (hw _ bw798) (fun _ h9 => h9) rfl dJ5_reverse_278bc_6 ?_
  refine lv_istore_n (lv' := [(2, .int (nI k)), (1, .ref v), (0, .ref o)]) hx hb dJ5_reverse_278bc_9 rfl hl (Nat.le_of_ble_eq_true rfl) rfl (fun ls hl => ?_)
  refine lv_iload_n hx hb dJ5_reverse_278bc_10 rfl (lv_at hl 0 rfl) ?_
  refine lv_iconst (v := (1 : Int32)) hx hb dJ5_reverse_278bc_11 qi_1 ?_
  refine lv_isub hx hb dJ5_reverse_278bc_12 ?_
  refine lv_istore_n (lv' := [(3, .int ((nI k) - (1 : Int32))), (2, .int (nI k)), (1, .ref v), (0, .ref o)]) hx hb dJ5_reverse_278bc_13 rfl hl (Nat.le_of_ble_eq_true rfl) rfl (fun ls hl => ?_)
  refine lv_aload_n hx hb dJ5_reverse_278bc_14 rfl (lv_at hl 3 rfl) ?_
  refine rcVf (st1 := [.int (1 : Int32)]) (as := []) (rest := []) (cl := RJ4) C (s_isLatin1 l G o v w9 0 (nI k) f) F_J5_isLatin1_aae02 rfl bw852 bw853 (hw _ bw855) (hE.S hS hAB) (show va_P (gD G) vwCl [(o, .inr (1, [.ref v, .int 0, .int 0, .int (nI k)])), (v, .inl (gC G 2, w9, .inl f))] _ from hP.sub [0, 1] rfl) (rv1 hE.K hP (q0 := 0) rfl) hl.1 dJ5_reverse_278bc_15 ⟨Nat.le_of_ble_eq_true rfl, Nat.le_of_ble_eq_true rfl⟩ rfl (Nat.le_of_ble_eq_true rfl) ⟨Nat.le_of_ble_eq_true rfl, Nat.le_of_ble_eq_true rfl⟩ rfl ?_
  refine lv_if_eq (tgt := 68) hx hb dJ5_reverse_278bc_18 (by decide) (fun c_x => absurd c_x (by decide)) (fun _ => ?_)
  refine lv_iload_n hx hb dJ5_reverse_278bc_21 rfl (lv_at hl 0 rfl) ?_
  refine lv_iconst (v := (1 : Int32)) hx hb dJ5_reverse_278bc_22 qi_1 ?_
  refine lv_isub hx hb dJ5_reverse_278bc_23 ?_
  refine lv_iconst (v := (1 : Int32)) hx hb dJ5_reverse_278bc_24 qi_1 ?_
  refine lv_ishr hx hb dJ5_reverse_278bc_25 ?_
  refine k_foldi (y := ((nI (k / 2)) - (1 : Int32))) (rev_j k hk9) ?_
  refine lv_istore (lv' := [(4, .int ((nI (k / 2)) - (1 : Int32))), (3, .int ((nI k) - (1 : Int32))), (2, .int (nI k)), (1, .ref v), (0, .ref o)]) hx hb dJ5_reverse_278bc_26 hl (Nat.le_of_ble_eq_true rfl) rfl (fun ls hl => ?_)
  refine rvLoop C hE hA hAB hk9 hkm (k / 2) f (Nat.le_refl _) hf.1 RV.start _ _ hP hD hS ls (lv_sub hl [0, 3, 1, 4] rfl) (fun f hf8 hV8 H locs hP hD hS ls hl => ?_)
  refine lv_goto (tgt := 73) hx hb dJ5_reverse_278bc_65 (by decide) ?_
  refine lv_aload_n hx hb dJ5_reverse_278bc_73 rfl (lv_at hl 2 rfl) ?_
  exact weA hx hb hr (Or.inl ⟨_, rfl⟩) hk ⟨rfl, v, w9, f, rfl, hm, hkm, hV8.tx hf hf8⟩ hP hD hS (Nat.le_of_ble_eq_true rfl) (Nat.le_of_ble_eq_true rfl) dJ5_reverse_278bc_74

set_option maxRecDepth 100000 in
set_option maxHeartbeats 4000000 in
theorem s_rev (l : Launch) (G : GT) (o v w9 k : Nat) (t f : Nat → Int32) (hm : mOK w9) (hk9 : k < 34) (hkm : k ≤ w9) (hf : TX t k f) : WE l G yJ4_reverse_43fcb cJ4_reverse_43fcb 1 (some (.object "java/lang/StringBuilder")) 3 0 0 [.ref o] [(o, .inr (1, [.ref v, .int 0, .int 0, .int (nI k)])), (v, .inl (gC G 2, w9, .inl f))] (fun r wd => r = some (.ref o) ∧ BD G o k (fun i => t (k - 1 - i)) wd) := by
  refine WE.ofW (own := RJ4) rfl (plainFor_of_name pnN_RJ4) (Nat.le_of_ble_eq_true rfl) ?_
  intro p e s m below meth c A C hr hk hnm hE hP hD hA hAB hS ls hl
  have hx := C.1
  have hb := C.2.1
  have hml := C.2.2.1
  have hown := C.2.2.2.1
  have hw := C.2.2.2.2
  have hl : lv_has ls 1 [(0, .ref o)] := hl
  refine lv_aload_n hx hb dJ4_reverse_43fcb_0 rfl (lv_at hl 0 rfl) ?_
  have hP9 : va_P (gD G) vwCl ([] ++ [(o, .inr (1, [.ref v, .int 0, .int 0, .int (nI k)])), (v, .inl (gC G 2, w9, .inl f))]) _ := hP
  have hD9 : va_D A ([] ++ [(o, .inr (1, [.ref v, .int 0, .int 0, .int (nI k)])), (v, .inl (gC G 2, w9, .inl f))]) := hD
  refine weU (wr := []) (wd := [(o, .inr (1, [.ref v, .int 0, .int 0, .int (nI k)])), (v, .inl (gC G 2, w9, .inl f))]) (as := []) (rest := []) (cl := RJ4) C (s_rev5 l G o v w9 k t f hm hk9 hkm hf) F_J5_reverse_278bc rfl bw909 bw1644 bw807 bw910 (by decide +kernel) (hE.S hS hAB) hP9 hD9 hS hA hAB (rv1 hE.K hP (q0 := 0) rfl) hl.1 dJ4_reverse_43fcb_1 ⟨Nat.le_of_ble_eq_true rfl, Nat.le_of_ble_eq_true rfl⟩ rfl (Nat.le_of_ble_eq_true rfl) ⟨Nat.le_of_ble_eq_true rfl, Nat.le_of_ble_eq_true rfl⟩ (fun r9 wd9 H locs hp9 hP hD hS => ?_)
  obtain ⟨rfl, v9_1, m9_1, f9_1, rfl, hm9_1, hle9_1, hf9_1⟩ := hp9
  have hP : va_P (gD G) vwCl [(o, .inr (1, [.ref v9_1, .int 0, .int 0, .int (nI k)])), (v9_1, .inl (gC G 2, m9_1, .inl f9_1))] H := hP
  have hD : va_D A [(o, .inr (1, [.ref v9_1, .int 0, .int 0, .int (nI k)])), (v9_1, .inl (gC G 2, m9_1, .inl f9_1))] := hD
  refine W.eq (g2 := F0 m 4 ls [.ref o]) rfl ?_
  refine lv_pop hx hb dJ4_reverse_43fcb_4 rfl ?_
  refine lv_aload_n hx hb dJ4_reverse_43fcb_5 rfl (lv_at hl 0 rfl) ?_
  exact weA hx hb hr (Or.inl ⟨_, rfl⟩) hk ⟨rfl, v9_1, m9_1, f9_1, rfl, hm9_1, hle9_1, hf9_1⟩ hP hD hS (Nat.le_of_ble_eq_true rfl) (Nat.le_of_ble_eq_true rfl) dJ4_reverse_43fcb_6

set_option maxRecDepth 100000 in
set_option maxHeartbeats 4000000 in
theorem dgEnd {p : Program} {l : Launch} {e : Env} {s : State} {m : MethodId} {args : Array Value} {below : List Frame} {meth : Method} {c : Code} {Q : State → Prop} {G : GT} {A : Nat → Prop} (C : CallFix p m c cX0_digitsOf 7 s args BW RX0) (hE : EV G s s.heap) {o c9 N : Nat} {x y : Int64} {v n : Nat} {f : Nat → Int32} {H : Heap} {locs : List Loc} {ls : Array Slot} (kk : ∀ (v n : Nat) (f : Nat → Int32), mOK n → c9 ≤ n → TX (dg N) c9 f → ∀ (H : Heap) (locs : List Loc), va_P (gD G) vwCl [(o, .inr (1, [.ref v, .int 0, .int 0, .int (nI c9)])), (v, .inl (gC G 2, n, .inl f))] H → va_D A [(o, .inr (1, [.ref v, .int 0, .int 0, .int (nI c9)])), (v, .inl (gC G 2, n, .inl f))] → va_S A s.heap H locs → ∀ ls : Array Slot, lv_has ls 7 [(2, .ref o), (0, .long x)] → W p l e (rmK 8 30 800) s m args below meth c H locs (2 + c9) (20 + 34 * c9) Q (F0 m 74 ls [])) (hP : va_P (gD G) vwCl [(o, .inr (1, [.ref v, .int 0, .int 0, .int (nI c9)])), (v, .inl (gC G 2, n, .inl f))] H) (hD : va_D A [(o, .inr (1, [.ref v, .int 0, .int 0, .int (nI c9)])), (v, .inl (gC G 2, n, .inl f))]) (hS : va_S A s.heap H locs) (hm : mOK n) (hle : c9 ≤ n) (hX : TX (dg N) c9 f) (hl : lv_has ls 7 [(6, .int (nI c9)), (4, .long y), (3, .int (nI c9)), (2, .ref o), (0, .long x)]) : W p l e (rmK 8 30 800) s m args below meth c H locs (2 + c9) (20 + 34 * c9) Q (F0 m 34 ls []) := by
  have hx := C.1
  have hb := C.2.1
  have hml := C.2.2.1
  have hown := C.2.2.2.1
  have hw := C.2.2.2.2
  refine lv_iload hx hb dX0_digitsOf_34 (lv_at hl 0 rfl) ?_
  refine lv_iload_n hx hb dX0_digitsOf_36 rfl (lv_at hl 2 rfl) ?_
  refine lv_icmp_ge (tgt := 74) hx hb dX0_digitsOf_37 (by decide) (fun _ => ?_) (fun c_x => absurd (Int32.le_refl _) c_x)
  exact kk v n f hm hle hX _ _ hP hD hS ls (lv_sub hl [3, 4] rfl)

set_option maxRecDepth 100000 in
set_option maxHeartbeats 4000000 in
theorem dgLoop {p : Program} {l : Launch} {e : Env} {s : State} {m : MethodId} {args : Array Value} {below : List Frame} {meth : Method} {c : Code} {Q : State → Prop} {G : GT} {A : Nat → Prop} (C : CallFix p m c cX0_digitsOf 7 s args BW RX0) (hE : EV G s s.heap) (hA : ∀ q : Nat, s.heap.size ≤ q → A q) (hAB : ∀ q : Nat, A q → gB G ≤ q) {o c9 N : Nat} {x : Int64} (hc9 : c9 ≤ 19) : ∀ (fu i : Nat) (y : Int64) (v n : Nat) (f : Nat → Int32), c9 ≤ i + fu → i ≤ c9 → mOK n → i ≤ n → TX (dg N) i f → y.toInt.natAbs = N / 10 ^ i → ∀ (H : Heap) (locs : List Loc), va_P (gD G) vwCl [(o, .inr (1, [.ref v, .int 0, .int 0, .int (nI i)])), (v, .inl (gC G 2, n, .inl f))] H → va_D A [(o, .inr (1, [.ref v, .int 0, .int 0, .int (nI i)])), (v, .inl (gC G 2, n, .inl f))] → va_S A s.heap H locs → ∀ ls : Array Slot, lv_has ls 7 [(6, .int (nI i)), (4, .long y), (3, .int (nI c9)), (2, .ref o), (0, .long x)] → (∀ (v n : Nat) (f : Nat → Int32), mOK n → c9 ≤ n → TX (dg N) c9 f → ∀ (H : Heap) (locs : List Loc), va_P (gD G) vwCl [(o, .inr (1, [.ref v, .int 0, .int 0, .int (nI c9)])), (v, .inl (gC G 2, n, .inl f))] H → va_D A [(o, .inr (1, [.ref v, .int 0, .int 0, .int (nI c9)])), (v, .inl (gC G 2, n, .inl f))] → va_S A s.heap H locs → ∀ ls : Array Slot, lv_has ls 7 [(2, .ref o), (0, .long x)] → W p l e (rmK 8 30 800) s m args below meth c H locs (2 + c9) (20 + 34 * c9) Q (F0 m 74 ls [])) → W p l e (rmK 8 30 800) s m args below meth c H locs (2 + i) (20 + 34 * i) Q (F0 m 34 ls []) := by
  have hx := C.1
  have hb := C.2.1
  have hml := C.2.2.1
  have hown := C.2.2.2.1
  have hw := C.2.2.2.2
  intro fu
  induction fu with
  | zero =>
    intro i y v n f h1 h2 hm hle hX hy H locs hP hD hS ls hl kk
    obtain rfl : i = c9 := by omega
    exact dgEnd C hE kk hP hD hS hm hle hX hl
  | succ fu ih =>
    intro i y v n f h1 h2 hm hle hX hy H locs hP hD hS ls hl kk
    refine lv_iload hx hb dX0_digitsOf_34 (lv_at hl 0 rfl) ?_
    refine lv_iload_n hx hb dX0_digitsOf_36 rfl (lv_at hl 2 rfl) ?_
    refine lv_icmp_ge (tgt := 74) hx hb dX0_digitsOf_37 (by decide) (fun c_1 => ?_) (fun c_1 => ?_)
    · obtain rfl : i = c9 := by
        have z := (nI_ltI (a := i) (b := c9) (by omega) (by omega)).mpr
        rcases Nat.lt_or_ge i c9 with q | q
        · exact absurd (z q) (Int32.not_lt.mpr c_1)
        · omega
      exact kk v n f hm hle hX H locs hP hD hS ls (lv_sub hl [3, 4] rfl)
    · have hic : i < c9 := (nI_ltI (by omega) (by omega)).mp (Int32.not_le.mp c_1)
      refine lv_aload_n hx hb dX0_digitsOf_40 rfl (lv_at hl 3 rfl) ?_
      refine lv_ldc2 (v := (48 : Int64)) hx hb hown (hw _ bw808) dX0_digitsOf_41 ?_
      refine lv_lload hx hb dX0_digitsOf_44 (lv_at hl 1 rfl) ?_
      refine lv_ldc2 (v := (10 : Int64)) hx hb hown (hw _ bw269) dX0_digitsOf_46 ?_
      refine lv_lrem hx hb dX0_digitsOf_49 (by decide) ?_
      refine rcSf (st1 := [.long (fJ9_abs_067f4 (y - y / (10 : Int64) * (10 : Int64))), .long (48 : Int64), .ref o]) (as := [.long (y - y / (10 : Int64) * (10 : Int64))]) (rest := [.long (48 : Int64), .ref o]) C (c_J9_abs_067f4 l G (y - y / (10 : Int64) * (10 : Int64))) F_J9_abs_067f4 rfl bw809 bw810 (hE.S hS hAB) vpn hl.1 dX0_digitsOf_50 ⟨Nat.le_of_ble_eq_true rfl, Nat.le_of_ble_eq_true rfl⟩ rfl (Nat.le_of_ble_eq_true rfl) ⟨by show 2 + i ≤ 30; omega, by show 20 + 34 * i ≤ 800; omega⟩ rfl ?_
      refine lv_ladd hx hb dX0_digitsOf_53 ?_
      refine lv_l2i (v := (((48 : Int64) + (fJ9_abs_067f4 (y - y / (10 : Int64) * (10 : Int64)))).toInt32)) hx hb dX0_digitsOf_54 (by first | rfl | decide) ?_
      refine lv_i2c (v := (((((48 : Int64) + (fJ9_abs_067f4 (y - y / (10 : Int64) * (10 : Int64)))).toInt32).toUInt32 % 65536).toInt32)) hx hb dX0_digitsOf_55 (by first | rfl | decide) ?_
      have hP9 : va_P (gD G) vwCl ([] ++ [(o, .inr (1, [.ref v, .int 0, .int 0, .int (nI i)])), (v, .inl (gC G 2, n, .inl f))]) _ := hP
      have hD9 : va_D A ([] ++ [(o, .inr (1, [.ref v, .int 0, .int 0, .int (nI i)])), (v, .inl (gC G 2, n, .inl f))]) := hD
      refine weVf (wr := []) (wd := [(o, .inr (1, [.ref v, .int 0, .int 0, .int (nI i)])), (v, .inl (gC G 2, n, .inl f))]) (as := [.int (((((48 : Int64) + (fJ9_abs_067f4 (y - y / (10 : Int64) * (10 : Int64)))).toInt32).toUInt32 % 65536).toInt32)]) (rest := []) (cl := RJ4) C (s_appC l G o v n i (dg N) f (((((48 : Int64) + (fJ9_abs_067f4 (y - y / (10 : Int64) * (10 : Int64)))).toInt32).toUInt32 % 65536).toInt32) hm (by omega) hle hX (ce_dig _)) F_J4_append_cf468 rfl bw812 bw813 (hw _ bw814) (hE.S hS hAB) hP9 hD9 hS hA hAB (rv1 hE.K hP (q0 := 0) rfl) hl.1 dX0_digitsOf_56 ⟨Nat.le_of_ble_eq_true rfl, Nat.le_of_ble_eq_true rfl⟩ rfl (Nat.le_of_ble_eq_true rfl) ⟨by show 2 + i + 1 ≤ 30; omega, by show 20 + 34 * i + 34 ≤ 800; omega⟩ (fun r9 wd9 H locs hp9 hP hD hS => ?_)
      obtain ⟨rfl, v9_56, m9_56, f9_56, rfl, hm9_56, hle9_56, hf9_56⟩ := hp9
      have hP : va_P (gD G) vwCl [(o, .inr (1, [.ref v9_56, .int 0, .int 0, .int (nI (i + 1))])), (v9_56, .inl (gC G 2, m9_56, .inl f9_56))] H := hP
      have hD : va_D A [(o, .inr (1, [.ref v9_56, .int 0, .int 0, .int (nI (i + 1))])), (v9_56, .inl (gC G 2, m9_56, .inl f9_56))] := hD
      refine W.eq (g2 := F0 m 59 ls [.ref o]) rfl ?_
      refine lv_pop hx hb dX0_digitsOf_59 rfl ?_
      refine lv_lload hx hb dX0_digitsOf_60 (lv_at hl 1 rfl) ?_
      refine lv_ldc2 (v := (10 : Int64)) hx hb hown (hw _ bw269) dX0_digitsOf_62 ?_
      refine lv_ldiv hx hb dX0_digitsOf_65 (by decide) ?_
      refine lv_lstore (lv' := [(4, .long (y / (10 : Int64))), (6, .int (nI i)), (3, .int (nI c9)), (2, .ref o), (0, .long x)]) hx hb dX0_digitsOf_66 hl (Nat.le_of_ble_eq_true rfl) rfl (fun ls hl => ?_)
      refine lv_iinc (v := (nI (i + 1))) (lv' := [(6, .int (nI (i + 1))), (4, .long (y / (10 : Int64))), (3, .int (nI c9)), (2, .ref o), (0, .long x)]) hx hb dX0_digitsOf_68 hl (k := 1) rfl (nI_1 i) (Nat.le_of_ble_eq_true rfl) rfl (fun ls hl => ?_)
      refine lv_goto (tgt := 34) hx hb dX0_digitsOf_71 (by decide) ?_
      refine W.widen (k := 2 + (i + 1)) (n := 20 + 34 * (i + 1)) (by omega) (by omega) ?_
      exact ih (i + 1) (y / (10 : Int64)) _ _ _ (by omega) (by omega) hm9_56 hle9_56 (hf9_56.up (dig_y hy)) (dig_n hy) _ _ hP hD hS ls (lv_sub hl [0, 1, 2, 3, 4] rfl) kk

set_option maxRecDepth 100000 in
set_option maxHeartbeats 4000000 in
theorem s_digitsOf_n (l : Launch) (G : GT) (x : Int64) (k : Nat) (hk19 : k ≤ 19) (hs : SS x k 1) (hdc : fX0_digitCount x = nI (k + 1)) (hx0 : ¬ 0 ≤ (lg_cmp x (0 : Int64))) : WE l G yX0_digitsOf cX0_digitsOf 7 (some (.object "java/lang/String")) 8 30 800 [.long x] [] (fun r wd => ∃ q : Nat, r = some (.ref q) ∧ STX G q x wd) := by
  refine WE.ofW (own := RX0) rfl (plainFor_of_name pnN_RX0) (Nat.le_of_ble_eq_true rfl) ?_
  intro p e s m below meth c A C hr hk hnm hE hP hD hA hAB hS ls hl
  have hx := C.1
  have hb := C.2.1
  have hml := C.2.2.1
  have hown := C.2.2.2.1
  have hw := C.2.2.2.2
  have hl : lv_has ls 7 [(0, .long x)] := hl
  refine va_new (cl := vwCl) (tys := gT G) (ci := 1) (fs := [.null, .int 0, .int 0, .int 0]) (C := RJ4) (T := TJ4) (N := 4) hx hb hw inB_J4 tyJ4 tyJ4_ok hown (hw _ bw777) (hw _ bw778) (hw _ bw67) hE.K hP hD hS hA rfl (fun j hj => by rcases (show j = 0 ∨ j = 1 ∨ j = 2 ∨ j = 3 by omega) with rfl | rfl | rfl | rfl <;> rfl) (Nat.le_of_ble_eq_true rfl) (Nat.le_of_ble_eq_true rfl) dX0_digitsOf_0 (fun q0 H hP hD hS => ?_)
  have hP : va_P (gD G) vwCl [(q0, .inr (1, [.null, .int 0, .int 0, .int 0]))] H := hP
  have hD : va_D A [(q0, .inr (1, [.null, .int 0, .int 0, .int 0]))] := hD
  refine lv_dup hx hb dX0_digitsOf_3 rfl ?_
  have hP9 : va_P (gD G) vwCl ([] ++ [(q0, .inr (1, [.null, .int 0, .int 0, .int 0]))]) _ := hP
  have hD9 : va_D A ([] ++ [(q0, .inr (1, [.null, .int 0, .int 0, .int 0]))]) := hD
  refine weI (wr := []) (wd := [(q0, .inr (1, [.null, .int 0, .int 0, .int 0]))]) (as := []) (rest := [.ref q0]) C (i_J4_init_da8c8 l G q0) F_J4_init_da8c8 rfl bw779 bw780 rfl (hE.S hS hAB) hP9 hD9 hS hA hAB hl.1 dX0_digitsOf_4 ⟨Nat.le_of_ble_eq_true rfl, Nat.le_of_ble_eq_true rfl⟩ rfl (Nat.le_of_ble_eq_true rfl) ⟨Nat.le_of_ble_eq_true rfl, Nat.le_of_ble_eq_true rfl⟩ (fun r9 wd9 H locs hp9 hP hD hS => ?_)
  obtain ⟨rfl, v9_4, rfl⟩ := hp9
  have hP : va_P (gD G) vwCl [(q0, .inr (1, [.ref v9_4, .int 0, .int 0, .int (nI 0)])), (v9_4, .inl (gC G 2, 16, .inl (fun _ => 0)))] H := hP
  have hD : va_D A [(q0, .inr (1, [.ref v9_4, .int 0, .int 0, .int (nI 0)])), (v9_4, .inl (gC G 2, 16, .inl (fun _ => 0)))] := hD
  refine W.eq (g2 := F0 m 7 ls [.ref q0]) rfl ?_
  refine lv_astore_n (lv' := [(2, .ref q0), (0, .long x)]) hx hb dX0_digitsOf_7 rfl hl (Nat.le_of_ble_eq_true rfl) rfl (fun ls hl => ?_)
  refine lv_lload_n hx hb dX0_digitsOf_8 rfl (lv_at hl 1 rfl) ?_
  refine lv_lconst (v := (0 : Int64)) hx hb dX0_digitsOf_9 ql_0 ?_
  refine W.lcmp hx hb dX0_digitsOf_10 ?_
  refine lv_if_ge (tgt := 23) hx hb dX0_digitsOf_11 (by decide) (fun c_x => absurd c_x hx0) (fun _ => ?_)
  refine lv_lload_n hx hb dX0_digitsOf_14 rfl (lv_at hl 1 rfl) ?_
  refine rcSf (st1 := [.int (fX0_digitCount x)]) (as := [.long x]) (rest := []) C (c_X0_digitCount l G x) F_X0_digitCount rfl bw266 bw267 (hE.S hS hAB) vpn hl.1 dX0_digitsOf_15 ⟨Nat.le_of_ble_eq_true rfl, Nat.le_of_ble_eq_true rfl⟩ rfl (Nat.le_of_ble_eq_true rfl) ⟨Nat.le_of_ble_eq_true rfl, Nat.le_of_ble_eq_true rfl⟩ rfl ?_
  refine k_foldi (y := (nI (k + 1))) hdc ?_
  refine lv_iconst (v := (1 : Int32)) hx hb dX0_digitsOf_18 qi_1 ?_
  refine lv_isub hx hb dX0_digitsOf_19 ?_
  refine k_foldi (y := (nI k)) (nI_prd k) ?_
  refine lv_goto (tgt := 27) hx hb dX0_digitsOf_20 (by decide) ?_
  refine lv_istore_n (lv' := [(3, .int (nI k)), (2, .ref q0), (0, .long x)]) hx hb dX0_digitsOf_27 rfl hl (Nat.le_of_ble_eq_true rfl) rfl (fun ls hl => ?_)
  refine lv_lload_n hx hb dX0_digitsOf_28 rfl (lv_at hl 2 rfl) ?_
  refine lv_lstore (lv' := [(4, .long x), (3, .int (nI k)), (2, .ref q0), (0, .long x)]) hx hb dX0_digitsOf_29 hl (Nat.le_of_ble_eq_true rfl) rfl (fun ls hl => ?_)
  refine lv_iconst (v := (0 : Int32)) hx hb dX0_digitsOf_31 qi_0 ?_
  refine lv_istore (lv' := [(6, .int (0 : Int32)), (4, .long x), (3, .int (nI k)), (2, .ref q0), (0, .long x)]) hx hb dX0_digitsOf_32 hl (Nat.le_of_ble_eq_true rfl) rfl (fun ls hl => ?_)
  refine W.widen (k := 2 + 0) (n := 20 + 34 * 0) (by decide) (by decide) ?_
  refine dgLoop C hE hA hAB (c9 := k) (N := x.toInt.natAbs) (by omega) k 0 x _ _ _ (by omega) (Nat.zero_le _) (Or.inl rfl) (Nat.zero_le _) (TX.no sb_fit0) (by rw [Nat.pow_zero, Nat.div_one]) _ _ hP hD hS ls (lv_sub hl [0, 1, 2, 3, 4] rfl) (fun v n f hm hle hX H locs hP hD hS ls hl => ?_)
  refine lv_lload_n hx hb dX0_digitsOf_74 rfl (lv_at hl 1 rfl) ?_
  refine lv_lconst (v := (0 : Int64)) hx hb dX0_digitsOf_75 ql_0 ?_
  refine W.lcmp hx hb dX0_digitsOf_76 ?_
  refine lv_if_ge (tgt := 87) hx hb dX0_digitsOf_77 (by decide) (fun c_x => absurd c_x hx0) (fun _ => ?_)
  refine lv_aload_n hx hb dX0_digitsOf_80 rfl (lv_at hl 0 rfl) ?_
  refine lv_bipush (v := (45 : Int32)) hx hb dX0_digitsOf_81 qb_45 ?_
  have hP9 : va_P (gD G) vwCl ([] ++ [(q0, .inr (1, [.ref v, .int 0, .int 0, .int (nI k)])), (v, .inl (gC G 2, n, .inl f))]) _ := hP
  have hD9 : va_D A ([] ++ [(q0, .inr (1, [.ref v, .int 0, .int 0, .int (nI k)])), (v, .inl (gC G 2, n, .inl f))]) := hD
  refine weVf (wr := []) (wd := [(q0, .inr (1, [.ref v, .int 0, .int 0, .int (nI k)])), (v, .inl (gC G 2, n, .inl f))]) (as := [.int (45 : Int32)]) (rest := []) (cl := RJ4) C (s_appC l G q0 v n k (dg x.toInt.natAbs) f (45 : Int32) hm (by omega) hle hX (by decide)) F_J4_append_cf468 rfl bw812 bw813 (hw _ bw814) (hE.S hS hAB) hP9 hD9 hS hA hAB (rv1 hE.K hP (q0 := 0) rfl) hl.1 dX0_digitsOf_83 ⟨Nat.le_of_ble_eq_true rfl, Nat.le_of_ble_eq_true rfl⟩ rfl (Nat.le_of_ble_eq_true rfl) ⟨by show 2 + k + 1 ≤ 30; omega, by show 20 + 34 * k + 34 ≤ 800; omega⟩ (fun r9 wd9 H locs hp9 hP hD hS => ?_)
  obtain ⟨rfl, v9_83, m9_83, f9_83, rfl, hm9_83, hle9_83, hf9_83⟩ := hp9
  have hP : va_P (gD G) vwCl [(q0, .inr (1, [.ref v9_83, .int 0, .int 0, .int (nI (k + 1))])), (v9_83, .inl (gC G 2, m9_83, .inl f9_83))] H := hP
  have hD : va_D A [(q0, .inr (1, [.ref v9_83, .int 0, .int 0, .int (nI (k + 1))])), (v9_83, .inl (gC G 2, m9_83, .inl f9_83))] := hD
  refine W.eq (g2 := F0 m 86 ls [.ref q0]) rfl ?_
  refine lv_pop hx hb dX0_digitsOf_86 rfl ?_
  refine lv_aload_n hx hb dX0_digitsOf_87 rfl (lv_at hl 0 rfl) ?_
  have hP9 : va_P (gD G) vwCl ([] ++ [(q0, .inr (1, [.ref v9_83, .int 0, .int 0, .int (nI (k + 1))])), (v9_83, .inl (gC G 2, m9_83, .inl f9_83))]) _ := hP
  have hD9 : va_D A ([] ++ [(q0, .inr (1, [.ref v9_83, .int 0, .int 0, .int (nI (k + 1))])), (v9_83, .inl (gC G 2, m9_83, .inl f9_83))]) := hD
  refine weVf (wr := []) (wd := [(q0, .inr (1, [.ref v9_83, .int 0, .int 0, .int (nI (k + 1))])), (v9_83, .inl (gC G 2, m9_83, .inl f9_83))]) (as := []) (rest := []) (cl := RJ4) C (s_rev l G q0 v9_83 m9_83 (k + 1) (upd (dg x.toInt.natAbs) k (vp_nar .byte ((45 : Int32).toInt8.toInt32))) f9_83 hm9_83 (by omega) hle9_83 hf9_83) F_J4_reverse_43fcb rfl bw905 bw906 (hw _ bw907) (hE.S hS hAB) hP9 hD9 hS hA hAB (rv1 hE.K hP (q0 := 0) rfl) hl.1 dX0_digitsOf_88 ⟨Nat.le_of_ble_eq_true rfl, Nat.le_of_ble_eq_true rfl⟩ rfl (Nat.le_of_ble_eq_true rfl) ⟨by show 2 + k + 1 + 0 ≤ 30; omega, by show 20 + 34 * k + 34 + 0 ≤ 800; omega⟩ (fun r9 wd9 H locs hp9 hP hD hS => ?_)
  obtain ⟨rfl, v9_88, m9_88, f9_88, rfl, hm9_88, hle9_88, hf9_88⟩ := hp9
  have hP : va_P (gD G) vwCl [(q0, .inr (1, [.ref v9_88, .int 0, .int 0, .int (nI (k + 1))])), (v9_88, .inl (gC G 2, m9_88, .inl f9_88))] H := hP
  have hD : va_D A [(q0, .inr (1, [.ref v9_88, .int 0, .int 0, .int (nI (k + 1))])), (v9_88, .inl (gC G 2, m9_88, .inl f9_88))] := hD
  refine W.eq (g2 := F0 m 91 ls [.ref q0]) rfl ?_
  have hP9 : va_P (gD G) vwCl ([] ++ [(q0, .inr (1, [.ref v9_88, .int 0, .int 0, .int (nI (k + 1))])), (v9_88, .inl (gC G 2, m9_88, .inl f9_88))]) _ := hP
  have hD9 : va_D A ([] ++ [(q0, .inr (1, [.ref v9_88, .int 0, .int 0, .int (nI (k + 1))])), (v9_88, .inl (gC G 2, m9_88, .inl f9_88))]) := hD
  refine weVf (wr := []) (wd := [(q0, .inr (1, [.ref v9_88, .int 0, .int 0, .int (nI (k + 1))])), (v9_88, .inl (gC G 2, m9_88, .inl f9_88))]) (as := []) (rest := []) (cl := RJ4) C (s_toString l G q0 v9_88 m9_88 (k + 1) (fun i => (upd (dg x.toInt.natAbs) k (vp_nar .byte ((45 : Int32).toInt8.toInt32))) ((k + 1) - 1 - i)) f9_88 (mOK.lt hm9_88) hle9_88 hf9_88) F_J4_toString_0e30d rfl bw942 bw943 (hw _ bw944) (hE.S hS hAB) hP9 hD9 hS hA hAB (rv1 hE.K hP (q0 := 0) rfl) hl.1 dX0_digitsOf_91 ⟨Nat.le_of_ble_eq_true rfl, Nat.le_of_ble_eq_true rfl⟩ rfl (Nat.le_of_ble_eq_true rfl) ⟨by show 2 + k + 1 + 0 + 2 ≤ 30; omega, by show 20 + 34 * k + 34 + 0 + 38 ≤ 800; omega⟩ (fun r9 wd9 H locs hp9 hP hD hS => ?_)
  obtain ⟨q9_91, u9_91, f9_91, rfl, rfl, hx9_91⟩ := hp9
  have hP : va_P (gD G) vwCl [(q9_91, .inr (0, [.ref u9_91, .int 0, .int 0, .int 0])), (u9_91, .inl (gC G 2, (k + 1), .inl f9_91))] H := hP
  have hD : va_D A [(q9_91, .inr (0, [.ref u9_91, .int 0, .int 0, .int 0])), (u9_91, .inl (gC G 2, (k + 1), .inl f9_91))] := hD
  refine W.eq (g2 := F0 m 94 ls [.ref q9_91]) rfl ?_
  exact weA hx hb hr (Or.inl ⟨_, rfl⟩) hk ⟨_, rfl, _, k, 1, _, rfl, hs, tT_n nar_45b hx9_91⟩ hP hD hS (by show 2 + k + 1 + 0 + 2 ≤ 30; omega) (by show 20 + 34 * k + 34 + 0 + 38 ≤ 800; omega) dX0_digitsOf_94

set_option maxRecDepth 100000 in
set_option maxHeartbeats 4000000 in
theorem s_digitsOf_p (l : Launch) (G : GT) (x : Int64) (k : Nat) (hk19 : k ≤ 19) (hs : SS x k 0) (hdc : fX0_digitCount x = nI k) (hx0 : 0 ≤ (lg_cmp x (0 : Int64))) : WE l G yX0_digitsOf cX0_digitsOf 7 (some (.object "java/lang/String")) 8 30 800 [.long x] [] (fun r wd => ∃ q : Nat, r = some (.ref q) ∧ STX G q x wd) := by
  refine WE.ofW (own := RX0) rfl (plainFor_of_name pnN_RX0) (Nat.le_of_ble_eq_true rfl) ?_
  intro p e s m below meth c A C hr hk hnm hE hP hD hA hAB hS ls hl
  have hx := C.1
  have hb := C.2.1
  have hml := C.2.2.1
  have hown := C.2.2.2.1
  have hw := C.2.2.2.2
  have hl : lv_has ls 7 [(0, .long x)] := hl
  refine va_new (cl := vwCl) (tys := gT G) (ci := 1) (fs := [.null, .int 0, .int 0, .int 0]) (C := RJ4) (T := TJ4) (N := 4) hx hb hw inB_J4 tyJ4 tyJ4_ok hown (hw _ bw777) (hw _ bw778) (hw _ bw67) hE.K hP hD hS hA rfl (fun j hj => by rcases (show j = 0 ∨ j = 1 ∨ j = 2 ∨ j = 3 by omega) with rfl | rfl | rfl | rfl <;> rfl) (Nat.le_of_ble_eq_true rfl) (Nat.le_of_ble_eq_true rfl) dX0_digitsOf_0 (fun q0 H hP hD hS => ?_)
  have hP : va_P (gD G) vwCl [(q0, .inr (1, [.null, .int 0, .int 0, .int 0]))] H := hP
  have hD : va_D A [(q0, .inr (1, [.null, .int 0, .int 0, .int 0]))] := hD
  refine lv_dup hx hb dX0_digitsOf_3 rfl ?_
  have hP9 : va_P (gD G) vwCl ([] ++ [(q0, .inr (1, [.null, .int 0, .int 0, .int 0]))]) _ := hP
  have hD9 : va_D A ([] ++ [(q0, .inr (1, [.null, .int 0, .int 0, .int 0]))]) := hD
  refine weI (wr := []) (wd := [(q0, .inr (1, [.null, .int 0, .int 0, .int 0]))]) (as := []) (rest := [.ref q0]) C (i_J4_init_da8c8 l G q0) F_J4_init_da8c8 rfl bw779 bw780 rfl (hE.S hS hAB) hP9 hD9 hS hA hAB hl.1 dX0_digitsOf_4 ⟨Nat.le_of_ble_eq_true rfl, Nat.le_of_ble_eq_true rfl⟩ rfl (Nat.le_of_ble_eq_true rfl) ⟨Nat.le_of_ble_eq_true rfl, Nat.le_of_ble_eq_true rfl⟩ (fun r9 wd9 H locs hp9 hP hD hS => ?_)
  obtain ⟨rfl, v9_4, rfl⟩ := hp9
  have hP : va_P (gD G) vwCl [(q0, .inr (1, [.ref v9_4, .int 0, .int 0, .int (nI 0)])), (v9_4, .inl (gC G 2, 16, .inl (fun _ => 0)))] H := hP
  have hD : va_D A [(q0, .inr (1, [.ref v9_4, .int 0, .int 0, .int (nI 0)])), (v9_4, .inl (gC G 2, 16, .inl (fun _ => 0)))] := hD
  refine W.eq (g2 := F0 m 7 ls [.ref q0]) rfl ?_
  refine lv_astore_n (lv' := [(2, .ref q0), (0, .long x)]) hx hb dX0_digitsOf_7 rfl hl (Nat.le_of_ble_eq_true rfl) rfl (fun ls hl => ?_)
  refine lv_lload_n hx hb dX0_digitsOf_8 rfl (lv_at hl 1 rfl) ?_
  refine lv_lconst (v := (0 : Int64)) hx hb dX0_digitsOf_9 ql_0 ?_
  refine W.lcmp hx hb dX0_digitsOf_10 ?_
  refine lv_if_ge (tgt := 23) hx hb dX0_digitsOf_11 (by decide) (fun _ => ?_) (fun c_x => absurd hx0 c_x)
  refine lv_lload_n hx hb dX0_digitsOf_23 rfl (lv_at hl 1 rfl) ?_
  refine rcSf (st1 := [.int (fX0_digitCount x)]) (as := [.long x]) (rest := []) C (c_X0_digitCount l G x) F_X0_digitCount rfl bw266 bw267 (hE.S hS hAB) vpn hl.1 dX0_digitsOf_24 ⟨Nat.le_of_ble_eq_true rfl, Nat.le_of_ble_eq_true rfl⟩ rfl (Nat.le_of_ble_eq_true rfl) ⟨Nat.le_of_ble_eq_true rfl, Nat.le_of_ble_eq_true rfl⟩ rfl ?_
  refine k_foldi (y := (nI k)) hdc ?_
  refine lv_istore_n (lv' := [(3, .int (nI k)), (2, .ref q0), (0, .long x)]) hx hb dX0_digitsOf_27 rfl hl (Nat.le_of_ble_eq_true rfl) rfl (fun ls hl => ?_)
  refine lv_lload_n hx hb dX0_digitsOf_28 rfl (lv_at hl 2 rfl) ?_
  refine lv_lstore (lv' := [(4, .long x), (3, .int (nI k)), (2, .ref q0), (0, .long x)]) hx hb dX0_digitsOf_29 hl (Nat.le_of_ble_eq_true rfl) rfl (fun ls hl => ?_)
  refine lv_iconst (v := (0 : Int32)) hx hb dX0_digitsOf_31 qi_0 ?_
  refine lv_istore (lv' := [(6, .int (0 : Int32)), (4, .long x), (3, .int (nI k)), (2, .ref q0), (0, .long x)]) hx hb dX0_digitsOf_32 hl (Nat.le_of_ble_eq_true rfl) rfl (fun ls hl => ?_)
  refine W.widen (k := 2 + 0) (n := 20 + 34 * 0) (by decide) (by decide) ?_
  refine dgLoop C hE hA hAB (c9 := k) (N := x.toInt.natAbs) (by omega) k 0 x _ _ _ (by omega) (Nat.zero_le _) (Or.inl rfl) (Nat.zero_le _) (TX.no sb_fit0) (by rw [Nat.pow_zero, Nat.div_one]) _ _ hP hD hS ls (lv_sub hl [0, 1, 2, 3, 4] rfl) (fun v n f hm hle hX H locs hP hD hS ls hl => ?_)
  refine lv_lload_n hx hb dX0_digitsOf_74 rfl (lv_at hl 1 rfl) ?_
  refine lv_lconst (v := (0 : Int64)) hx hb dX0_digitsOf_75 ql_0 ?_
  refine W.lcmp hx hb dX0_digitsOf_76 ?_
  refine lv_if_ge (tgt := 87) hx hb dX0_digitsOf_77 (by decide) (fun _ => ?_) (fun c_x => absurd hx0 c_x)
  refine lv_aload_n hx hb dX0_digitsOf_87 rfl (lv_at hl 0 rfl) ?_
  have hP9 : va_P (gD G) vwCl ([] ++ [(q0, .inr (1, [.ref v, .int 0, .int 0, .int (nI k)])), (v, .inl (gC G 2, n, .inl f))]) _ := hP
  have hD9 : va_D A ([] ++ [(q0, .inr (1, [.ref v, .int 0, .int 0, .int (nI k)])), (v, .inl (gC G 2, n, .inl f))]) := hD
  refine weVf (wr := []) (wd := [(q0, .inr (1, [.ref v, .int 0, .int 0, .int (nI k)])), (v, .inl (gC G 2, n, .inl f))]) (as := []) (rest := []) (cl := RJ4) C (s_rev l G q0 v n k (dg x.toInt.natAbs) f hm (by omega) hle hX) F_J4_reverse_43fcb rfl bw905 bw906 (hw _ bw907) (hE.S hS hAB) hP9 hD9 hS hA hAB (rv1 hE.K hP (q0 := 0) rfl) hl.1 dX0_digitsOf_88 ⟨Nat.le_of_ble_eq_true rfl, Nat.le_of_ble_eq_true rfl⟩ rfl (Nat.le_of_ble_eq_true rfl) ⟨by show 2 + k + 0 ≤ 30; omega, by show 20 + 34 * k + 0 ≤ 800; omega⟩ (fun r9 wd9 H locs hp9 hP hD hS => ?_)
  obtain ⟨rfl, v9_88, m9_88, f9_88, rfl, hm9_88, hle9_88, hf9_88⟩ := hp9
  have hP : va_P (gD G) vwCl [(q0, .inr (1, [.ref v9_88, .int 0, .int 0, .int (nI k)])), (v9_88, .inl (gC G 2, m9_88, .inl f9_88))] H := hP
  have hD : va_D A [(q0, .inr (1, [.ref v9_88, .int 0, .int 0, .int (nI k)])), (v9_88, .inl (gC G 2, m9_88, .inl f9_88))] := hD
  refine W.eq (g2 := F0 m 91 ls [.ref q0]) rfl ?_
  have hP9 : va_P (gD G) vwCl ([] ++ [(q0, .inr (1, [.ref v9_88, .int 0, .int 0, .int (nI k)])), (v9_88, .inl (gC G 2, m9_88, .inl f9_88))]) _ := hP
  have hD9 : va_D A ([] ++ [(q0, .inr (1, [.ref v9_88, .int 0, .int 0, .int (nI k)])), (v9_88, .inl (gC G 2, m9_88, .inl f9_88))]) := hD
  refine weVf (wr := []) (wd := [(q0, .inr (1, [.ref v9_88, .int 0, .int 0, .int (nI k)])), (v9_88, .inl (gC G 2, m9_88, .inl f9_88))]) (as := []) (rest := []) (cl := RJ4) C (s_toString l G q0 v9_88 m9_88 k (fun i => (dg x.toInt.natAbs) (k - 1 - i)) f9_88 (mOK.lt hm9_88) hle9_88 hf9_88) F_J4_toString_0e30d rfl bw942 bw943 (hw _ bw944) (hE.S hS hAB) hP9 hD9 hS hA hAB (rv1 hE.K hP (q0 := 0) rfl) hl.1 dX0_digitsOf_91 ⟨Nat.le_of_ble_eq_true rfl, Nat.le_of_ble_eq_true rfl⟩ rfl (Nat.le_of_ble_eq_true rfl) ⟨by show 2 + k + 0 + 2 ≤ 30; omega, by show 20 + 34 * k + 0 + 38 ≤ 800; omega⟩ (fun r9 wd9 H locs hp9 hP hD hS => ?_)
  obtain ⟨q9_91, u9_91, f9_91, rfl, rfl, hx9_91⟩ := hp9
  have hP : va_P (gD G) vwCl [(q9_91, .inr (0, [.ref u9_91, .int 0, .int 0, .int 0])), (u9_91, .inl (gC G 2, k, .inl f9_91))] H := hP
  have hD : va_D A [(q9_91, .inr (0, [.ref u9_91, .int 0, .int 0, .int 0])), (u9_91, .inl (gC G 2, k, .inl f9_91))] := hD
  refine W.eq (g2 := F0 m 94 ls [.ref q9_91]) rfl ?_
  exact weA hx hb hr (Or.inl ⟨_, rfl⟩) hk ⟨_, rfl, _, k, 0, _, rfl, hs, tT_p hx9_91⟩ hP hD hS (by show 2 + k + 0 + 2 ≤ 30; omega) (by show 20 + 34 * k + 0 + 38 ≤ 800; omega) dX0_digitsOf_94

theorem s_digitsOf (l : Launch) (G : GT) (x : Int64) : WE l G yX0_digitsOf cX0_digitsOf 7 (some (.object "java/lang/String")) 8 30 800 [.long x] [] (fun r wd => ∃ q : Nat, r = some (.ref q) ∧ STX G q x wd) := by
  obtain ⟨k, d, hs⟩ := SS_of x
  have hd := dc_SS hs
  have hs8 := hs
  have z0 : (0 : Int64).toInt = 0 := by decide
  rcases hs with ⟨h1, h2, h3, -⟩
  rcases h3 with ⟨g1, rfl⟩ | ⟨g1, rfl⟩
  · exact s_digitsOf_n l G x k h2 hs8 hd (fun z => absurd (lgc_ge.mp z) (by rw [z0]; omega))
  · exact s_digitsOf_p l G x k h2 hs8 hd (lgc_ge.mpr (by rw [z0]; exact g1))
