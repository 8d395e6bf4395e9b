theorem xs_ensureCapacityInternal : Cond.selects RJ4 yJ5_ensureCapacityInternal_d00df yJ5_ensureCapacityInternal_d00df ∈ BW := xBW 0 (by decide +kernel) (by decide +kernel)
theorem xs_newCapacity : Cond.selects RJ4 yJ5_newCapacity_0f7a4 yJ5_newCapacity_0f7a4 ∈ BW := xBW 1 (by decide +kernel) (by decide +kernel)
theorem xs_putStringAt : Cond.selects RJ4 yJ5_putStringAt_47b60 yJ5_putStringAt_47b60 ∈ BW := xBW 2 (by decide +kernel) (by decide +kernel)
theorem xs_inflateIfNeededFor : Cond.selects RJ4 yJ5_inflateIfNeededFor_a7421 yJ5_inflateIfNeededFor_a7421 ∈ BW := xBW 3 (by decide +kernel) (by decide +kernel)

theorem recvK6 {G : GT} {s : State} {H : Heap} {locs : List Loc} (hE : EV G s s.heap) (hS : va_S (gA G) s.heap H locs) : ∃ cellB : Cell, H[ga G 6]? = some cellB ∧ cellB.vm.isStatics = false ∧ s.vm.findClass RJ0 = some cellB.cls := by
  obtain ⟨cell, h1, h2, h3, -⟩ := (hE.2.2.2.2.2.2.2.2.2.2.2.2.1).kept hS.2.1
  exact ⟨cell, h1, h2, h3⟩
theorem inB_J0 : ∀ w ∈ u_ws RJ0 TJ0 4, w ∈ BW := by
  have h : ∀ w ∈ u_ws RJ0 TJ0 4, w ∈ lw_tbl := by decide +kernel
  have g : ∀ w ∈ u_ws RJ0 TJ0 4, goodWord w = true := by decide +kernel
  exact fun w hw => lBW (h w hw) (g w hw)
/-- a builder that holds k letters -/
def BD (G : GT) (o k : Nat) (t : Nat → Int32) (wd : va_W) : Prop := ∃ (v m : Nat) (f : Nat → Int32), wd = wB G o v m 0 (nI k) f ∧ mOK m ∧ k ≤ m ∧ TX t k f
def ENS (G : GT) (o q : Nat) (n : Int32) (f0 : Nat → Int32) (w0 : Nat) (r : Option Value) (wd : va_W) : Prop := r = none ∧ ∃ (v m : Nat) (f : Nat → Int32), wd = wB G o v m 0 n f ∧ mOK m ∧ q ≤ m ∧ TX f0 w0 f
theorem nc_h1 {q : Nat} (h1 : 16 < q) (h2 : q ≤ 34) : ¬ ((16 : Int32) + (fJ9_max_7cf53 ((nI q) - (16 : Int32)) (18 : Int32))) ≤ (0 : Int32) := by rw [nc_max h1 h2]; decide
theorem nc_h2 {q : Nat} (h1 : 16 < q) (h2 : q ≤ 34) : ¬ (2147483639 : Int32) < ((16 : Int32) + (fJ9_max_7cf53 ((nI q) - (16 : Int32)) (18 : Int32))) := by rw [nc_max h1 h2]; decide
theorem nc_new {q : Nat} (h1 : 16 < q) (h2 : q ≤ 34) : (fJ8_newLength_cabcc (16 : Int32) ((nI q) - (16 : Int32)) (18 : Int32)) = (34 : Int32) := by
  unfold fJ8_newLength_cabcc
  rw [nc_max h1 h2]
  decide

set_option maxRecDepth 100000 in
set_option maxHeartbeats 4000000 in
theorem s_isLatin1 (l : Launch) (G : GT) (o v w9 : Nat) (z n : Int32) (f : Nat → Int32) : RO l G yJ5_isLatin1_aae02 cJ5_isLatin1_aae02 1 (some .boolean) 1 [.ref o] [(o, .inr (1, [.ref v, .int 0, .int z, .int n])), (v, .inl (gC G 2, w9, .inl f))] (some (.int 1)) := by
  refine RO.ofW (own := RJ5) rfl (plainFor_of_name pnN_RJ5) (Nat.le_of_ble_eq_true rfl) ?_
  intro p e s m below meth c C hr hk hE hP ls hl
  have hx := C.1
  have hb := C.2.1
  have hml := C.2.2.1
  have hown := C.2.2.2.1
  have hw := C.2.2.2.2
  have hl : lv_has ls 1 [(0, .ref o)] := hl
  refine va_gets hx hb hE.2.2.2.2.2.2.1 va_S.rf hown (hw _ bw786) (fun _ h9 => h9) dJ5_isLatin1_aae02_0 ?_
  refine lv_if_eq (tgt := 17) hx hb dJ5_isLatin1_aae02_3 (by decide) (fun c_x => absurd c_x (by decide)) (fun _ => ?_)
  refine lv_aload_n hx hb dJ5_isLatin1_aae02_6 rfl (lv_at hl 0 rfl) ?_
  refine va_get (D := gD G) (cl := vwCl) (tys := gT G) (ci := 1) (v := .int 0) (C := RJ4) (T := TJ4) (N := 4) hx hb hw inB_J4 hown hE.K hP 0 rfl rfl 1 (by decide) (hw _ bw796) (fun _ h9 => h9) rfl dJ5_isLatin1_aae02_7 ?_
  refine lv_if_ne (tgt := 17) hx hb dJ5_isLatin1_aae02_10 (by decide) (fun c_x => absurd (show (0 : Int32) = 0 from by decide) c_x) (fun _ => ?_)
  refine lv_iconst (v := (1 : Int32)) hx hb dJ5_isLatin1_aae02_13 qi_1 ?_
  refine lv_goto (tgt := 18) hx hb dJ5_isLatin1_aae02_14 (by decide) ?_
  exact re_z (ty := .boolean) hx hb hr hk (by decide) dJ5_isLatin1_aae02_18 rfl

set_option maxRecDepth 100000 in
set_option maxHeartbeats 4000000 in
theorem s_length5 (l : Launch) (G : GT) (o v w9 : Nat) (z n : Int32) (f : Nat → Int32) : RO l G yJ5_length_8abf5 cJ5_length_8abf5 1 (some .int) 1 [.ref o] [(o, .inr (1, [.ref v, .int 0, .int z, .int n])), (v, .inl (gC G 2, w9, .inl f))] (some (.int n)) := by
  refine RO.ofW (own := RJ5) rfl (plainFor_of_name pnN_RJ5) (Nat.le_of_ble_eq_true rfl) ?_
  intro p e s m below meth c C hr hk hE hP ls hl
  have hx := C.1
  have hb := C.2.1
  have hml := C.2.2.1
  have hown := C.2.2.2.1
  have hw := C.2.2.2.2
  have hl : lv_has ls 1 [(0, .ref o)] := hl
  refine lv_aload_n hx hb dJ5_length_8abf5_0 rfl (lv_at hl 0 rfl) ?_
  refine va_get (D := gD G) (cl := vwCl) (tys := gT G) (ci := 1) (v := .int n) (C := RJ4) (T := TJ4) (N := 4) hx hb hw inB_J4 hown hE.K hP 0 rfl rfl 3 (by decide) (hw _ bw798) (fun _ h9 => h9) rfl dJ5_length_8abf5_1 ?_
  exact re_i hx hb hr hk dJ5_length_8abf5_4 rfl

set_option maxRecDepth 100000 in
set_option maxHeartbeats 4000000 in
theorem s_length4 (l : Launch) (G : GT) (o v w9 : Nat) (z n : Int32) (f : Nat → Int32) : RO l G yJ4_length_8abf5 cJ4_length_8abf5 1 (some .int) 2 [.ref o] [(o, .inr (1, [.ref v, .int 0, .int z, .int n])), (v, .inl (gC G 2, w9, .inl f))] (some (.int n)) := by
  refine RO.ofW (own := RJ4) rfl (plainFor_of_name pnN_RJ4) (Nat.le_of_ble_eq_true rfl) ?_
  intro p e s m below meth c C hr hk hE hP ls hl
  have hx := C.1
  have hb := C.2.1
  have hml := C.2.2.1
  have hown := C.2.2.2.1
  have hw := C.2.2.2.2
  have hl : lv_has ls 1 [(0, .ref o)] := hl
  refine lv_aload_n hx hb dJ4_length_8abf5_0 rfl (lv_at hl 0 rfl) ?_
  refine rcU (st1 := [.int n]) (as := []) (rest := []) (cl := RJ4) C (s_length5 l G o v w9 z n f) F_J5_length_8abf5 rfl bw966 bw962 bw807 bw961 (by decide +kernel) hE (show va_P (gD G) vwCl [(o, .inr (1, [.ref v, .int 0, .int z, .int n])), (v, .inl (gC G 2, w9, .inl f))] _ from hP.sub [0, 1] rfl) (rv1 hE.K hP (q0 := 0) rfl) hl.1 dJ4_length_8abf5_1 ⟨Nat.le_of_ble_eq_true rfl, Nat.le_of_ble_eq_true rfl⟩ rfl (Nat.le_of_ble_eq_true rfl) ⟨Nat.le_of_ble_eq_true rfl, Nat.le_of_ble_eq_true rfl⟩ rfl ?_
  exact re_i hx hb hr hk dJ4_length_8abf5_4 rfl

set_option maxRecDepth 100000 in
set_option maxHeartbeats 4000000 in
theorem s_getValue (l : Launch) (G : GT) (o v w9 : Nat) (z n : Int32) (f : Nat → Int32) : RO l G yJ5_getValue_6d5f1 cJ5_getValue_6d5f1 1 (some (.array .byte)) 1 [.ref o] [(o, .inr (1, [.ref v, .int 0, .int z, .int n])), (v, .inl (gC G 2, w9, .inl f))] (some (.ref v)) := by
  refine RO.ofW (own := RJ5) rfl (plainFor_of_name pnN_RJ5) (Nat.le_of_ble_eq_true rfl) ?_
  intro p e s m below meth c C hr hk hE hP ls hl
  have hx := C.1
  have hb := C.2.1
  have hml := C.2.2.1
  have hown := C.2.2.2.1
  have hw := C.2.2.2.2
  have hl : lv_has ls 1 [(0, .ref o)] := hl
  refine lv_aload_n hx hb dJ5_getValue_6d5f1_0 rfl (lv_at hl 0 rfl) ?_
  refine va_get (D := gD G) (cl := vwCl) (tys := gT G) (ci := 1) (v := .ref v) (C := RJ4) (T := TJ4) (N := 4) hx hb hw inB_J4 hown hE.K hP 0 rfl rfl 0 (by decide) (hw _ bw795) (fun _ h9 => h9) rfl dJ5_getValue_6d5f1_1 ?_
  exact re_a hx hb hr (Or.inr ⟨_, rfl⟩) hk dJ5_getValue_6d5f1_4 rfl

set_option maxRecDepth 100000 in
set_option maxHeartbeats 4000000 in
theorem s_copyOf (l : Launch) (G : GT) (v : Nat) (f : Nat → Int32) (hf : sb_Fit f) : WE l G yJ7_copyOf_9075b cJ7_copyOf_9075b 3 (some (.array .byte)) 2 1 34 [.ref v, .int (34 : Int32)] [(v, .inl (gC G 2, 16, .inl f))] (fun r wd => ∃ (q : Nat) (f1 : Nat → Int32), r = some (.ref q) ∧ wd = [(v, .inl (gC G 2, 16, .inl f)), (q, .inl (gC G 2, 34, .inl f1))] ∧ TX f 16 f1) := by
  refine WE.ofW (own := RJ7) rfl (plainFor_of_name pnN_RJ7) (Nat.le_of_ble_eq_true rfl) ?_
  intro p e s m below meth c A C hr hk hnm hE hP hD hA hAB hS ls hl
  have hx := C.1
  have hb := C.2.1
  have hml := C.2.2.1
  have hown := C.2.2.2.1
  have hw := C.2.2.2.2
  have hl : lv_has ls 3 [(0, .ref v), (1, .int (34 : Int32))] := hl
  refine lv_iload_n hx hb dJ7_copyOf_9075b_0 rfl (lv_at hl 1 rfl) ?_
  refine lv_aload_n hx hb dJ7_copyOf_9075b_1 rfl (lv_at hl 0 rfl) ?_
  refine va_alen (tys := gT G) (v := (16 : Int32)) hx hb hE.K hP 0 2 rfl rfl rfl dJ7_copyOf_9075b_2 ?_
  refine lv_icmp_ne (tgt := 14) hx hb dJ7_copyOf_9075b_3 (by decide) (fun _ => ?_) (fun c_x => absurd c_x (by decide))
  refine lv_iload_n hx hb dJ7_copyOf_9075b_14 rfl (lv_at hl 1 rfl) ?_
  refine nwB (N' := 34) hx hb (hw _ bw377) hE.K hP hD hS hA (by decide) (by decide) (by decide) (Nat.le_of_ble_eq_true rfl) (Nat.le_of_ble_eq_true rfl) dJ7_copyOf_9075b_15 (fun q15 H hP hD hS => ?_)
  have hP : va_P (gD G) vwCl [(v, .inl (gC G 2, 16, .inl f)), (q15, .inl (gC G 2, 34, .inl (fun _ => 0)))] H := hP
  have hD : va_D A [(v, .inl (gC G 2, 16, .inl f)), (q15, .inl (gC G 2, 34, .inl (fun _ => 0)))] := hD
  refine lv_astore_n (lv' := [(2, .ref q15), (0, .ref v), (1, .int (34 : Int32))]) hx hb dJ7_copyOf_9075b_17 rfl hl (Nat.le_of_ble_eq_true rfl) rfl (fun ls hl => ?_)
  refine lv_aload_n hx hb dJ7_copyOf_9075b_18 rfl (lv_at hl 1 rfl) ?_
  refine lv_iconst (v := (0 : Int32)) hx hb dJ7_copyOf_9075b_19 qi_0 ?_
  refine lv_aload_n hx hb dJ7_copyOf_9075b_20 rfl (lv_at hl 0 rfl) ?_
  refine lv_iconst (v := (0 : Int32)) hx hb dJ7_copyOf_9075b_21 qi_0 ?_
  refine lv_aload_n hx hb dJ7_copyOf_9075b_22 rfl (lv_at hl 1 rfl) ?_
  refine va_alen (tys := gT G) (v := (16 : Int32)) hx hb hE.K hP 0 2 rfl rfl rfl dJ7_copyOf_9075b_23 ?_
  refine lv_iload_n hx hb dJ7_copyOf_9075b_24 rfl (lv_at hl 2 rfl) ?_
  refine rcSf (st1 := [.int (fJ9_min_7cf53 (16 : Int32) (34 : Int32)), .int (0 : Int32), .ref q15, .int (0 : Int32), .ref v]) (as := [.int (16 : Int32), .int (34 : Int32)]) (rest := [.int (0 : Int32), .ref q15, .int (0 : Int32), .ref v]) C (c_J9_min_7cf53 l G (16 : Int32) (34 : Int32)) F_J9_min_7cf53 rfl bw848 bw214 (hE.S hS hAB) vpn hl.1 dJ7_copyOf_9075b_25 ⟨Nat.le_of_ble_eq_true rfl, Nat.le_of_ble_eq_true rfl⟩ rfl (Nat.le_of_ble_eq_true rfl) ⟨Nat.le_of_ble_eq_true rfl, Nat.le_of_ble_eq_true rfl⟩ rfl ?_
  refine k_foldi (y := (16 : Int32)) (by decide) ?_
  refine va_copyi (tys := gT G) hx hb (by rw [hml]; exact hl.1.symm) hown (hw _ bw849) (hw _ bw851) (hw _ bw850) (hw _ bw72) hE.K hP hD hS 0 1 2 2 rfl rfl rfl rfl rfl (by decide) (by decide) (by decide) (by decide) (by decide) (fun i _ => hf _) (Nat.le_of_ble_eq_true rfl) (Nat.le_of_ble_eq_true rfl) dJ7_copyOf_9075b_28 (fun H locs hP hD hS => ?_)
  have hP : va_P (gD G) vwCl [(v, .inl (gC G 2, 16, .inl f)), (q15, .inl (gC G 2, 34, .inl (va_cpy f (fun _ => 0) (0 : Int32).toNatClampNeg (0 : Int32).toNatClampNeg (16 : Int32).toNatClampNeg)))] H := hP
  have hD : va_D A [(v, .inl (gC G 2, 16, .inl f)), (q15, .inl (gC G 2, 34, .inl (va_cpy f (fun _ => 0) (0 : Int32).toNatClampNeg (0 : Int32).toNatClampNeg (16 : Int32).toNatClampNeg)))] := hD
  refine lv_aload_n hx hb dJ7_copyOf_9075b_31 rfl (lv_at hl 0 rfl) ?_
  exact weA hx hb hr (Or.inr ⟨_, rfl⟩) hk ⟨q15, _, rfl, rfl, ⟨sb_fitC hf sb_fit0, fun j hj => cpI (by decide) (by decide) (by decide) hj⟩⟩ hP hD hS (Nat.le_of_ble_eq_true rfl) (Nat.le_of_ble_eq_true rfl) dJ7_copyOf_9075b_32

set_option maxRecDepth 100000 in
set_option maxHeartbeats 4000000 in
theorem s_newCapacity (l : Launch) (G : GT) (o v : Nat) (n : Int32) (f : Nat → Int32) (q : Nat) (h1 : 16 < q) (h2 : q ≤ 34) : RO l G yJ5_newCapacity_0f7a4 cJ5_newCapacity_0f7a4 6 (some .int) 3 [.ref o, .int (nI q)] [(o, .inr (1, [.ref v, .int 0, .int 0, .int n])), (v, .inl (gC G 2, 16, .inl f))] (some (.int 34)) := by
  refine RO.ofW (own := RJ5) rfl (plainFor_of_name pnN_RJ5) (Nat.le_of_ble_eq_true rfl) ?_
  intro p e s m below meth c C hr hk hE hP ls hl
  have hx := C.1
  have hb := C.2.1
  have hml := C.2.2.1
  have hown := C.2.2.2.1
  have hw := C.2.2.2.2
  have hl : lv_has ls 6 [(0, .ref o), (1, .int (nI q))] := hl
  refine lv_aload_n hx hb dJ5_newCapacity_0f7a4_0 rfl (lv_at hl 0 rfl) ?_
  refine va_get (D := gD G) (cl := vwCl) (tys := gT G) (ci := 1) (v := .ref v) (C := RJ4) (T := TJ4) (N := 4) hx hb hw inB_J4 hown hE.K hP 0 rfl rfl 0 (by decide) (hw _ bw795) (fun _ h9 => h9) rfl dJ5_newCapacity_0f7a4_1 ?_
  refine va_alen (tys := gT G) (v := (16 : Int32)) hx hb hE.K hP 1 2 rfl rfl rfl dJ5_newCapacity_0f7a4_4 ?_
  refine lv_istore_n (lv' := [(2, .int (16 : Int32)), (0, .ref o), (1, .int (nI q))]) hx hb dJ5_newCapacity_0f7a4_5 rfl hl (Nat.le_of_ble_eq_true rfl) rfl (fun ls hl => ?_)
  refine lv_iload_n hx hb dJ5_newCapacity_0f7a4_6 rfl (lv_at hl 2 rfl) ?_
  refine lv_aload_n hx hb dJ5_newCapacity_0f7a4_7 rfl (lv_at hl 1 rfl) ?_
  refine va_get (D := gD G) (cl := vwCl) (tys := gT G) (ci := 1) (v := .int 0) (C := RJ4) (T := TJ4) (N := 4) hx hb hw inB_J4 hown hE.K hP 0 rfl rfl 1 (by decide) (hw _ bw796) (fun _ h9 => h9) rfl dJ5_newCapacity_0f7a4_8 ?_
  refine lv_ishl hx hb dJ5_newCapacity_0f7a4_11 ?_
  refine k_foldi (y := (nI q)) (sb_shl0 _) ?_
  refine lv_istore_n (lv' := [(3, .int (nI q)), (2, .int (16 : Int32)), (0, .ref o), (1, .int (nI q))]) hx hb dJ5_newCapacity_0f7a4_12 rfl hl (Nat.le_of_ble_eq_true rfl) rfl (fun ls hl => ?_)
  refine lv_iload_n hx hb dJ5_newCapacity_0f7a4_13 rfl (lv_at hl 0 rfl) ?_
  refine lv_iload_n hx hb dJ5_newCapacity_0f7a4_14 rfl (lv_at hl 1 rfl) ?_
  refine lv_isub hx hb dJ5_newCapacity_0f7a4_15 ?_
  refine lv_istore (lv' := [(4, .int ((nI q) - (16 : Int32))), (3, .int (nI q)), (2, .int (16 : Int32)), (0, .ref o), (1, .int (nI q))]) hx hb dJ5_newCapacity_0f7a4_16 hl (Nat.le_of_ble_eq_true rfl) rfl (fun ls hl => ?_)
  refine lv_iload_n hx hb dJ5_newCapacity_0f7a4_18 rfl (lv_at hl 2 rfl) ?_
  refine lv_iload hx hb dJ5_newCapacity_0f7a4_19 (lv_at hl 0 rfl) ?_
  refine lv_iload_n hx hb dJ5_newCapacity_0f7a4_21 rfl (lv_at hl 2 rfl) ?_
  refine lv_iconst (v := (2 : Int32)) hx hb dJ5_newCapacity_0f7a4_22 qi_2 ?_
  refine lv_aload_n hx hb dJ5_newCapacity_0f7a4_23 rfl (lv_at hl 3 rfl) ?_
  refine va_get (D := gD G) (cl := vwCl) (tys := gT G) (ci := 1) (v := .int 0) (C := RJ4) (T := TJ4) (N := 4) hx hb hw inB_J4 hown hE.K hP 0 rfl rfl 1 (by decide) (hw _ bw796) (fun _ h9 => h9) rfl dJ5_newCapacity_0f7a4_24 ?_
  refine lv_ishl hx hb dJ5_newCapacity_0f7a4_27 ?_
  refine k_foldi (y := (2 : Int32)) (sb_shl0 _) ?_
  refine lv_iadd hx hb dJ5_newCapacity_0f7a4_28 ?_
  refine k_foldi (y := (18 : Int32)) (by decide) ?_
  refine rcSf (st1 := [.int (fJ8_newLength_cabcc (16 : Int32) ((nI q) - (16 : Int32)) (18 : Int32))]) (as := [.int (16 : Int32), .int ((nI q) - (16 : Int32)), .int (18 : Int32)]) (rest := []) C (c_J8_newLength_cabcc l G (16 : Int32) ((nI q) - (16 : Int32)) (18 : Int32) (nc_h1 h1 h2) (nc_h2 h1 h2)) F_J8_newLength_cabcc rfl bw827 bw828 hE vpn hl.1 dJ5_newCapacity_0f7a4_29 ⟨Nat.le_of_ble_eq_true rfl, Nat.le_of_ble_eq_true rfl⟩ rfl (Nat.le_of_ble_eq_true rfl) ⟨Nat.le_of_ble_eq_true rfl, Nat.le_of_ble_eq_true rfl⟩ rfl ?_
  refine k_foldi (y := (34 : Int32)) (nc_new h1 h2) ?_
  refine lv_istore (lv' := [(5, .int (34 : Int32)), (4, .int ((nI q) - (16 : Int32))), (3, .int (nI q)), (2, .int (16 : Int32)), (0, .ref o), (1, .int (nI q))]) hx hb dJ5_newCapacity_0f7a4_32 hl (Nat.le_of_ble_eq_true rfl) rfl (fun ls hl => ?_)
  refine lv_iload hx hb dJ5_newCapacity_0f7a4_34 (lv_at hl 0 rfl) ?_
  refine lv_ldc (v := (2147483647 : Int32)) hx hb hown (hw _ bw837) dJ5_newCapacity_0f7a4_36 ?_
  refine lv_icmp_ne (tgt := 51) hx hb dJ5_newCapacity_0f7a4_38 (by decide) (fun _ => ?_) (fun c_x => absurd c_x (by decide))
  refine lv_iload hx hb dJ5_newCapacity_0f7a4_51 (lv_at hl 0 rfl) ?_
  refine lv_aload_n hx hb dJ5_newCapacity_0f7a4_53 rfl (lv_at hl 4 rfl) ?_
  refine va_get (D := gD G) (cl := vwCl) (tys := gT G) (ci := 1) (v := .int 0) (C := RJ4) (T := TJ4) (N := 4) hx hb hw inB_J4 hown hE.K hP 0 rfl rfl 1 (by decide) (hw _ bw796) (fun _ h9 => h9) rfl dJ5_newCapacity_0f7a4_54 ?_
  refine lv_ishr hx hb dJ5_newCapacity_0f7a4_57 ?_
  refine k_foldi (y := (34 : Int32)) (sb_shr0 _) ?_
  exact re_i hx hb hr hk dJ5_newCapacity_0f7a4_58 rfl

set_option maxRecDepth 100000 in
set_option maxHeartbeats 4000000 in
theorem s_ensure_room (l : Launch) (G : GT) (o v w9 : Nat) (n : Int32) (f : Nat → Int32) (q : Nat) (hm : mOK w9) (hq : q ≤ 34) (hf : sb_Fit f) (h : q ≤ w9) : WE l G yJ5_ensureCapacityInternal_d00df cJ5_ensureCapacityInternal_d00df 3 none 4 1 34 [.ref o, .int (nI q)] [(o, .inr (1, [.ref v, .int 0, .int 0, .int n])), (v, .inl (gC G 2, w9, .inl f))] (fun r wd => ENS G o q n f w9 r wd) := by
  refine WE.ofW (own := RJ5) rfl (plainFor_of_name pnN_RJ5) (Nat.le_of_ble_eq_true rfl) ?_
  intro p e s m below meth c A C hr hk hnm hE hP hD hA hAB hS ls hl
  have hx := C.1
  have hb := C.2.1
  have hml := C.2.2.1
  have hown := C.2.2.2.1
  have hw := C.2.2.2.2
  have hl : lv_has ls 3 [(0, .ref o), (1, .int (nI q))] := hl
  refine lv_aload_n hx hb dJ5_ensureCapacityInternal_d00df_0 rfl (lv_at hl 0 rfl) ?_
  refine va_get (D := gD G) (cl := vwCl) (tys := gT G) (ci := 1) (v := .ref v) (C := RJ4) (T := TJ4) (N := 4) hx hb hw inB_J4 hown hE.K hP 0 rfl rfl 0 (by decide) (hw _ bw795) (fun _ h9 => h9) rfl dJ5_ensureCapacityInternal_d00df_1 ?_
  refine va_alen (tys := gT G) (v := (nI w9)) hx hb hE.K hP 1 2 rfl rfl rfl dJ5_ensureCapacityInternal_d00df_4 ?_
  refine lv_aload_n hx hb dJ5_ensureCapacityInternal_d00df_5 rfl (lv_at hl 0 rfl) ?_
  refine va_get (D := gD G) (cl := vwCl) (tys := gT G) (ci := 1) (v := .int 0) (C := RJ4) (T := TJ4) (N := 4) hx hb hw inB_J4 hown hE.K hP 0 rfl rfl 1 (by decide) (hw _ bw796) (fun _ h9 => h9) rfl dJ5_ensureCapacityInternal_d00df_6 ?_
  refine lv_ishr hx hb dJ5_ensureCapacityInternal_d00df_9 ?_
  refine k_foldi (y := (nI w9)) (sb_shr0 _) ?_
  refine lv_istore_n (lv' := [(2, .int (nI w9)), (0, .ref o), (1, .int (nI q))]) hx hb dJ5_ensureCapacityInternal_d00df_10 rfl hl (Nat.le_of_ble_eq_true rfl) rfl (fun ls hl => ?_)
  refine lv_iload_n hx hb dJ5_ensureCapacityInternal_d00df_11 rfl (lv_at hl 2 rfl) ?_
  refine lv_iload_n hx hb dJ5_ensureCapacityInternal_d00df_12 rfl (lv_at hl 0 rfl) ?_
  refine lv_isub hx hb dJ5_ensureCapacityInternal_d00df_13 ?_
  refine lv_if_le (tgt := 38) hx hb dJ5_ensureCapacityInternal_d00df_14 (by decide) (fun _ => ?_) (fun c_x => absurd ((nI_sub_le hq hm.lt).mpr h) c_x)
  exact we_v hx hb hr hk ⟨rfl, v, w9, f, rfl, hm, h, TX.rf hf⟩ hP hD hS (Nat.le_of_ble_eq_true rfl) (Nat.le_of_ble_eq_true rfl) dJ5_ensureCapacityInternal_d00df_38

set_option maxRecDepth 100000 in
set_option maxHeartbeats 4000000 in
theorem s_ensure_grow (l : Launch) (G : GT) (o v : Nat) (n : Int32) (f : Nat → Int32) (q : Nat) (h1 : 16 < q) (h2 : q ≤ 34) (hf : sb_Fit f) : WE l G yJ5_ensureCapacityInternal_d00df cJ5_ensureCapacityInternal_d00df 3 none 4 1 34 [.ref o, .int (nI q)] [(o, .inr (1, [.ref v, .int 0, .int 0, .int n])), (v, .inl (gC G 2, 16, .inl f))] (fun r wd => ENS G o q n f 16 r wd) := by
  refine WE.ofW (own := RJ5) rfl (plainFor_of_name pnN_RJ5) (Nat.le_of_ble_eq_true rfl) ?_
  intro p e s m below meth c A C hr hk hnm hE hP hD hA hAB hS ls hl
  have hx := C.1
  have hb := C.2.1
  have hml := C.2.2.1
  have hown := C.2.2.2.1
  have hw := C.2.2.2.2
  have hl : lv_has ls 3 [(0, .ref o), (1, .int (nI q))] := hl
  refine lv_aload_n hx hb dJ5_ensureCapacityInternal_d00df_0 rfl (lv_at hl 0 rfl) ?_
  refine va_get (D := gD G) (cl := vwCl) (tys := gT G) (ci := 1) (v := .ref v) (C := RJ4) (T := TJ4) (N := 4) hx hb hw inB_J4 hown hE.K hP 0 rfl rfl 0 (by decide) (hw _ bw795) (fun _ h9 => h9) rfl dJ5_ensureCapacityInternal_d00df_1 ?_
  refine va_alen (tys := gT G) (v := (16 : Int32)) hx hb hE.K hP 1 2 rfl rfl rfl dJ5_ensureCapacityInternal_d00df_4 ?_
  refine lv_aload_n hx hb dJ5_ensureCapacityInternal_d00df_5 rfl (lv_at hl 0 rfl) ?_
  refine va_get (D := gD G) (cl := vwCl) (tys := gT G) (ci := 1) (v := .int 0) (C := RJ4) (T := TJ4) (N := 4) hx hb hw inB_J4 hown hE.K hP 0 rfl rfl 1 (by decide) (hw _ bw796) (fun _ h9 => h9) rfl dJ5_ensureCapacityInternal_d00df_6 ?_
  refine lv_ishr hx hb dJ5_ensureCapacityInternal_d00df_9 ?_
  refine k_foldi (y := (16 : Int32)) (sb_shr0 _) ?_
  refine lv_istore_n (lv' := [(2, .int (16 : Int32)), (0, .ref o), (1, .int (nI q))]) hx hb dJ5_ensureCapacityInternal_d00df_10 rfl hl (Nat.le_of_ble_eq_true rfl) rfl (fun ls hl => ?_)
  refine lv_iload_n hx hb dJ5_ensureCapacityInternal_d00df_11 rfl (lv_at hl 2 rfl) ?_
  refine lv_iload_n hx hb dJ5_ensureCapacityInternal_d00df_12 rfl (lv_at hl 0 rfl) ?_
  refine lv_isub hx hb dJ5_ensureCapacityInternal_d00df_13 ?_
  refine lv_if_le (tgt := 38) hx hb dJ5_ensureCapacityInternal_d00df_14 (by decide) (fun c_x => absurd c_x (fun z => absurd ((nI_sub_le (m := 16) h2 (by decide)).mp z) (Nat.not_le.mpr h1))) (fun _ => ?_)
  refine lv_aload_n hx hb dJ5_ensureCapacityInternal_d00df_17 rfl (lv_at hl 1 rfl) ?_
  refine lv_aload_n hx hb dJ5_ensureCapacityInternal_d00df_18 rfl (lv_at hl 1 rfl) ?_
  refine va_get (D := gD G) (cl := vwCl) (tys := gT G) (ci := 1) (v := .ref v) (C := RJ4) (T := TJ4) (N := 4) hx hb hw inB_J4 hown hE.K hP 0 rfl rfl 0 (by decide) (hw _ bw795) (fun _ h9 => h9) rfl dJ5_ensureCapacityInternal_d00df_19 ?_
  refine lv_aload_n hx hb dJ5_ensureCapacityInternal_d00df_22 rfl (lv_at hl 1 rfl) ?_
  refine lv_iload_n hx hb dJ5_ensureCapacityInternal_d00df_23 rfl (lv_at hl 2 rfl) ?_
  refine rcVf (st1 := [.int (34 : Int32), .ref v, .ref o]) (as := [.int (nI q)]) (rest := [.ref v, .ref o]) (cl := RJ4) C (s_newCapacity l G o v n f q h1 h2) F_J5_newCapacity_0f7a4 rfl bw823 bw825 (hw _ xs_newCapacity) (hE.S hS hAB) (show va_P (gD G) vwCl [(o, .inr (1, [.ref v, .int 0, .int 0, .int n])), (v, .inl (gC G 2, 16, .inl f))] _ from hP.sub [0, 1] rfl) (rv1 hE.K hP (q0 := 0) rfl) hl.1 dJ5_ensureCapacityInternal_d00df_24 ⟨Nat.le_of_ble_eq_true rfl, Nat.le_of_ble_eq_true rfl⟩ rfl (Nat.le_of_ble_eq_true rfl) ⟨Nat.le_of_ble_eq_true rfl, Nat.le_of_ble_eq_true rfl⟩ rfl ?_
  refine lv_aload_n hx hb dJ5_ensureCapacityInternal_d00df_27 rfl (lv_at hl 1 rfl) ?_
  refine va_get (D := gD G) (cl := vwCl) (tys := gT G) (ci := 1) (v := .int 0) (C := RJ4) (T := TJ4) (N := 4) hx hb hw inB_J4 hown hE.K hP 0 rfl rfl 1 (by decide) (hw _ bw796) (fun _ h9 => h9) rfl dJ5_ensureCapacityInternal_d00df_28 ?_
  refine lv_ishl hx hb dJ5_ensureCapacityInternal_d00df_31 ?_
  refine k_foldi (y := (34 : Int32)) (sb_shl0 _) ?_
  have hP9 : va_P (gD G) vwCl ([(o, .inr (1, [.ref v, .int 0, .int 0, .int n]))] ++ [(v, .inl (gC G 2, 16, .inl f))]) _ := hP
  have hD9 : va_D A ([(o, .inr (1, [.ref v, .int 0, .int 0, .int n]))] ++ [(v, .inl (gC G 2, 16, .inl f))]) := hD
  refine weS (wr := [(o, .inr (1, [.ref v, .int 0, .int 0, .int n]))]) (wd := [(v, .inl (gC G 2, 16, .inl f))]) (as := [.ref v, .int (34 : Int32)]) (rest := [.ref o]) C (s_copyOf l G v f hf) F_J7_copyOf_9075b rfl bw838 bw839 (hE.S hS hAB) hP9 hD9 hS hA hAB hl.1 dJ5_ensureCapacityInternal_d00df_32 ⟨Nat.le_of_ble_eq_true rfl, Nat.le_of_ble_eq_true rfl⟩ rfl (Nat.le_of_ble_eq_true rfl) ⟨Nat.le_of_ble_eq_true rfl, Nat.le_of_ble_eq_true rfl⟩ (fun r9 wd9 H locs hp9 hP hD hS => ?_)
  obtain ⟨q9_32, f9_32, rfl, rfl, hf9_32⟩ := hp9
  have hP : va_P (gD G) vwCl [(o, .inr (1, [.ref v, .int 0, .int 0, .int n])), (v, .inl (gC G 2, 16, .inl f)), (q9_32, .inl (gC G 2, 34, .inl f9_32))] H := hP
  have hD : va_D A [(o, .inr (1, [.ref v, .int 0, .int 0, .int n])), (v, .inl (gC G 2, 16, .inl f)), (q9_32, .inl (gC G 2, 34, .inl f9_32))] := hD
  refine W.eq (g2 := F0 m 35 ls [.ref q9_32, .ref o]) rfl ?_
  refine va_put (D := gD G) (cl := vwCl) (tys := gT G) (ci := 1) (v := .ref q9_32) (ty := tyJ4 0) (C := RJ4) (T := TJ4) (N := 4) hx hb hw inB_J4 tyJ4 tyJ4_ok nmJ4 hown hE.K hP hD hS 0 rfl rfl 0 (by decide) (hw _ bw795) (fun _ h9 => h9) rfl (by first | decide +kernel | rfl) rfl rfl (Nat.le_of_ble_eq_true rfl) dJ5_ensureCapacityInternal_d00df_35 (fun H locs hP hD hS => ?_)
  have hP : va_P (gD G) vwCl [(o, .inr (1, [.ref q9_32, .int 0, .int 0, .int n])), (v, .inl (gC G 2, 16, .inl f)), (q9_32, .inl (gC G 2, 34, .inl f9_32))] H := hP
  have hD : va_D A [(o, .inr (1, [.ref q9_32, .int 0, .int 0, .int n])), (v, .inl (gC G 2, 16, .inl f)), (q9_32, .inl (gC G 2, 34, .inl f9_32))] := hD
  exact we_v hx hb hr hk ⟨rfl, q9_32, 34, f9_32, rfl, Or.inr rfl, h2, hf9_32⟩ (hP.sub [0, 2] rfl) (hD.sub [0, 2] (by decide) rfl) hS (Nat.le_of_ble_eq_true rfl) (Nat.le_of_ble_eq_true rfl) dJ5_ensureCapacityInternal_d00df_38

theorem s_ensure (l : Launch) (G : GT) (o v w9 : Nat) (n : Int32) (f : Nat → Int32) (q : Nat) (hm : mOK w9) (hq : q ≤ 34) (hf : sb_Fit f) : WE l G yJ5_ensureCapacityInternal_d00df cJ5_ensureCapacityInternal_d00df 3 none 4 1 34 [.ref o, .int (nI q)] [(o, .inr (1, [.ref v, .int 0, .int 0, .int n])), (v, .inl (gC G 2, w9, .inl f))] (fun r wd => ENS G o q n f w9 r wd) := by
  by_cases h : q ≤ w9
  · exact s_ensure_room l G o v w9 n f q hm hq hf h
  · rcases hm with rfl | rfl
    · exact s_ensure_grow l G o v n f q (Nat.not_le.mp h) hq hf
    · exact absurd hq h

set_option maxRecDepth 100000 in
set_option maxHeartbeats 4000000 in
theorem s_appC5 (l : Launch) (G : GT) (o v w9 k : Nat) (t f : Nat → Int32) (ch : Int32) (hm : mOK w9) (hk9 : k < 34) (hkw : k ≤ w9) (hf : TX t k f) (hch : fJ1_canEncode_fc78d ch = 1) : WE l G yJ5_append_3fe6f cJ5_append_3fe6f 2 (some (.object "java/lang/AbstractStringBuilder")) 5 1 34 [.ref o, .int ch] [(o, .inr (1, [.ref v, .int 0, .int 0, .int (nI k)])), (v, .inl (gC G 2, w9, .inl f))] (fun r wd => r = some (.ref o) ∧ BD G o (k + 1) (upd t k (vp_nar .byte (ch.toInt8.toInt32))) wd) := by
  refine WE.ofW (own := RJ5) rfl (plainFor_of_name pnN_RJ5) (Nat.le_of_ble_eq_true rfl) ?_
  intro p e s m below meth c A C hr hk hnm hE hP hD hA hAB hS ls hl
  have hx := C.1
  have hb := C.2.1
  have hml := C.2.2.1
  have hown := C.2.2.2.1
  have hw := C.2.2.2.2
  have hl : lv_has ls 2 [(0, .ref o), (1, .int ch)] := hl
  refine lv_aload_n hx hb dJ5_append_3fe6f_0 rfl (lv_at hl 0 rfl) ?_
  refine lv_aload_n hx hb dJ5_append_3fe6f_1 rfl (lv_at hl 0 rfl) ?_
  refine va_get (D := gD G) (cl := vwCl) (tys := gT G) (ci := 1) (v := .int (nI k)) (C := RJ4) (T := TJ4) (N := 4) hx hb hw inB_J4 hown hE.K hP 0 rfl rfl 3 (by decide) (hw _ bw798) (fun _ h9 => h9) rfl dJ5_append_3fe6f_2 ?_
  refine lv_iconst (v := (1 : Int32)) hx hb dJ5_append_3fe6f_5 qi_1 ?_
  refine lv_iadd hx hb dJ5_append_3fe6f_6 ?_
  refine k_foldi (y := (nI (k + 1))) (nI_1 k) ?_
  have hP9 : va_P (gD G) vwCl ([] ++ [(o, .inr (1, [.ref v, .int 0, .int 0, .int (nI k)])), (v, .inl (gC G 2, w9, .inl f))]) _ := hP
  have hD9 : va_D A ([] ++ [(o, .inr (1, [.ref v, .int 0, .int 0, .int (nI k)])), (v, .inl (gC G 2, w9, .inl f))]) := hD
  refine weVf (wr := []) (wd := [(o, .inr (1, [.ref v, .int 0, .int 0, .int (nI k)])), (v, .inl (gC G 2, w9, .inl f))]) (as := [.int (nI (k + 1))]) (rest := []) (cl := RJ4) C (s_ensure l G o v w9 (nI k) f (k + 1) hm hk9 hf.1) F_J5_ensureCapacityInternal_d00df rfl bw819 bw821 (hw _ xs_ensureCapacityInternal) (hE.S hS hAB) hP9 hD9 hS hA hAB (rv1 hE.K hP (q0 := 0) rfl) hl.1 dJ5_append_3fe6f_7 ⟨Nat.le_of_ble_eq_true rfl, Nat.le_of_ble_eq_true rfl⟩ rfl (Nat.le_of_ble_eq_true rfl) ⟨Nat.le_of_ble_eq_true rfl, Nat.le_of_ble_eq_true rfl⟩ (fun r9 wd9 H locs hp9 hP hD hS => ?_)
  obtain ⟨rfl, v9_7, m9_7, f9_7, rfl, hm9_7, hle9_7, hf9_7⟩ := hp9
  have hP : va_P (gD G) vwCl [(o, .inr (1, [.ref v9_7, .int 0, .int 0, .int (nI k)])), (v9_7, .inl (gC G 2, m9_7, .inl f9_7))] H := hP
  have hD : va_D A [(o, .inr (1, [.ref v9_7, .int 0, .int 0, .int (nI k)])), (v9_7, .inl (gC G 2, m9_7, .inl f9_7))] := hD
  refine W.eq (g2 := F0 m 10 ls []) rfl ?_
  refine lv_aload_n hx hb dJ5_append_3fe6f_10 rfl (lv_at hl 0 rfl) ?_
  refine rcVf (st1 := [.int (1 : Int32)]) (as := []) (rest := []) (cl := RJ4) C (s_isLatin1 l G o v9_7 m9_7 0 (nI k) f9_7) F_J5_isLatin1_aae02 rfl bw852 bw853 (hw _ bw855) (hE.S hS hAB) (show va_P (gD G) vwCl [(o, .inr (1, [.ref v9_7, .int 0, .int 0, .int (nI k)])), (v9_7, .inl (gC G 2, m9_7, .inl f9_7))] _ from hP.sub [0, 1] rfl) (rv1 hE.K hP (q0 := 0) rfl) hl.1 dJ5_append_3fe6f_11 ⟨Nat.le_of_ble_eq_true rfl, Nat.le_of_ble_eq_true rfl⟩ rfl (Nat.le_of_ble_eq_true rfl) ⟨Nat.le_of_ble_eq_true rfl, Nat.le_of_ble_eq_true rfl⟩ rfl ?_
  refine lv_if_eq (tgt := 45) hx hb dJ5_append_3fe6f_14 (by decide) (fun c_x => absurd c_x (by decide)) (fun _ => ?_)
  refine lv_iload_n hx hb dJ5_append_3fe6f_17 rfl (lv_at hl 1 rfl) ?_
  refine rcSf (st1 := [.int (fJ1_canEncode_fc78d ch)]) (as := [.int ch]) (rest := []) C (c_J1_canEncode_fc78d l G ch) F_J1_canEncode_fc78d rfl bw857 bw858 (hE.S hS hAB) vpn hl.1 dJ5_append_3fe6f_18 ⟨Nat.le_of_ble_eq_true rfl, Nat.le_of_ble_eq_true rfl⟩ rfl (Nat.le_of_ble_eq_true rfl) ⟨Nat.le_of_ble_eq_true rfl, Nat.le_of_ble_eq_true rfl⟩ rfl ?_
  refine k_foldi (y := (1 : Int32)) hch ?_
  refine lv_if_eq (tgt := 45) hx hb dJ5_append_3fe6f_21 (by decide) (fun c_x => absurd c_x (by decide)) (fun _ => ?_)
  refine lv_aload_n hx hb dJ5_append_3fe6f_24 rfl (lv_at hl 0 rfl) ?_
  refine va_get (D := gD G) (cl := vwCl) (tys := gT G) (ci := 1) (v := .ref v9_7) (C := RJ4) (T := TJ4) (N := 4) hx hb hw inB_J4 hown hE.K hP 0 rfl rfl 0 (by decide) (hw _ bw795) (fun _ h9 => h9) rfl dJ5_append_3fe6f_25 ?_
  refine lv_aload_n hx hb dJ5_append_3fe6f_28 rfl (lv_at hl 0 rfl) ?_
  refine lv_dup hx hb dJ5_append_3fe6f_29 rfl ?_
  refine va_get (D := gD G) (cl := vwCl) (tys := gT G) (ci := 1) (v := .int (nI k)) (C := RJ4) (T := TJ4) (N := 4) hx hb hw inB_J4 hown hE.K hP 0 rfl rfl 3 (by decide) (hw _ bw798) (fun _ h9 => h9) rfl dJ5_append_3fe6f_30 ?_
  refine lv_dup_x1 hx hb dJ5_append_3fe6f_33 rfl rfl ?_
  refine lv_iconst (v := (1 : Int32)) hx hb dJ5_append_3fe6f_34 qi_1 ?_
  refine lv_iadd hx hb dJ5_append_3fe6f_35 ?_
  refine k_foldi (y := (nI (k + 1))) (nI_1 k) ?_
  refine va_put (D := gD G) (cl := vwCl) (tys := gT G) (ci := 1) (v := .int (nI (k + 1))) (ty := tyJ4 3) (C := RJ4) (T := TJ4) (N := 4) hx hb hw inB_J4 tyJ4 tyJ4_ok nmJ4 hown hE.K hP hD hS 0 rfl rfl 3 (by decide) (hw _ bw798) (fun _ h9 => h9) rfl (by first | decide +kernel | rfl) rfl rfl (Nat.le_of_ble_eq_true rfl) dJ5_append_3fe6f_36 (fun H locs hP hD hS => ?_)
  have hP : va_P (gD G) vwCl [(o, .inr (1, [.ref v9_7, .int 0, .int 0, .int (nI (k + 1))])), (v9_7, .inl (gC G 2, m9_7, .inl f9_7))] H := hP
  have hD : va_D A [(o, .inr (1, [.ref v9_7, .int 0, .int 0, .int (nI (k + 1))])), (v9_7, .inl (gC G 2, m9_7, .inl f9_7))] := hD
  refine lv_iload_n hx hb dJ5_append_3fe6f_39 rfl (lv_at hl 1 rfl) ?_
  refine lv_i2b (v := (ch.toInt8.toInt32)) hx hb dJ5_append_3fe6f_40 (by first | rfl | decide) ?_
  refine va_bast (tys := gT G) hx hb hE.K hP hD hS 1 2 rfl rfl (vp_in_nI (Nat.lt_of_succ_le hle9_7) (Nat.lt_trans hm9_7.lt (by decide))) dJ5_append_3fe6f_41 (fun H locs hP hD hS => ?_)
  have hP : va_P (gD G) vwCl [(o, .inr (1, [.ref v9_7, .int 0, .int 0, .int (nI (k + 1))])), (v9_7, .inl (gC G 2, m9_7, .inl (upd f9_7 (nI k).toNatClampNeg (vp_nar .byte (ch.toInt8.toInt32)))))] H := hP
  have hD : va_D A [(o, .inr (1, [.ref v9_7, .int 0, .int 0, .int (nI (k + 1))])), (v9_7, .inl (gC G 2, m9_7, .inl (upd f9_7 (nI k).toNatClampNeg (vp_nar .byte (ch.toInt8.toInt32)))))] := hD
  refine lv_goto (tgt := 75) hx hb dJ5_append_3fe6f_42 (by decide) ?_
  refine lv_aload_n hx hb dJ5_append_3fe6f_75 rfl (lv_at hl 0 rfl) ?_
  exact weA hx hb hr (Or.inl ⟨_, rfl⟩) hk ⟨rfl, v9_7, m9_7, _, rfl, hm9_7, hle9_7, TX.app hf hkw hf9_7 hk9 (fit_nar _)⟩ hP hD hS (Nat.le_of_ble_eq_true rfl) (Nat.le_of_ble_eq_true rfl) dJ5_append_3fe6f_76

set_option maxRecDepth 100000 in
set_option maxHeartbeats 4000000 in
theorem s_appC (l : Launch) (G : GT) (o v w9 k : Nat) (t f : Nat → Int32) (ch : Int32) (hm : mOK w9) (hk9 : k < 34) (hkw : k ≤ w9) (hf : TX t k f) (hch : fJ1_canEncode_fc78d ch = 1) : WE l G yJ4_append_cf468 cJ4_append_cf468 2 (some (.object "java/lang/StringBuilder")) 6 1 34 [.ref o, .int ch] [(o, .inr (1, [.ref v, .int 0, .int 0, .int (nI k)])), (v, .inl (gC G 2, w9, .inl f))] (fun r wd => r = some (.ref o) ∧ BD G o (k + 1) (upd t k (vp_nar .byte (ch.toInt8.toInt32))) wd) := by
  refine WE.ofW (own := RJ4) rfl (plainFor_of_name pnN_RJ4) (Nat.le_of_ble_eq_true rfl) ?_
  intro p e s m below meth c A C hr hk hnm hE hP hD hA hAB hS ls hl
  have hx := C.1
  have hb := C.2.1
  have hml := C.2.2.1
  have hown := C.2.2.2.1
  have hw := C.2.2.2.2
  have hl : lv_has ls 2 [(0, .ref o), (1, .int ch)] := hl
  refine lv_aload_n hx hb dJ4_append_cf468_0 rfl (lv_at hl 0 rfl) ?_
  refine lv_iload_n hx hb dJ4_append_cf468_1 rfl (lv_at hl 1 rfl) ?_
  have hP9 : va_P (gD G) vwCl ([] ++ [(o, .inr (1, [.ref v, .int 0, .int 0, .int (nI k)])), (v, .inl (gC G 2, w9, .inl f))]) _ := hP
  have hD9 : va_D A ([] ++ [(o, .inr (1, [.ref v, .int 0, .int 0, .int (nI k)])), (v, .inl (gC G 2, w9, .inl f))]) := hD
  refine weU (wr := []) (wd := [(o, .inr (1, [.ref v, .int 0, .int 0, .int (nI k)])), (v, .inl (gC G 2, w9, .inl f))]) (as := [.int ch]) (rest := []) (cl := RJ4) C (s_appC5 l G o v w9 k t f ch hm hk9 hkw hf hch) F_J5_append_3fe6f rfl bw816 bw1640 bw807 bw817 (by decide +kernel) (hE.S hS hAB) hP9 hD9 hS hA hAB (rv1 hE.K hP (q0 := 0) rfl) hl.1 dJ4_append_cf468_2 ⟨Nat.le_of_ble_eq_true rfl, Nat.le_of_ble_eq_true rfl⟩ rfl (Nat.le_of_ble_eq_true rfl) ⟨Nat.le_of_ble_eq_true rfl, Nat.le_of_ble_eq_true rfl⟩ (fun r9 wd9 H locs hp9 hP hD hS => ?_)
  obtain ⟨rfl, v9_2, m9_2, f9_2, rfl, hm9_2, hle9_2, hf9_2⟩ := hp9
  have hP : va_P (gD G) vwCl [(o, .inr (1, [.ref v9_2, .int 0, .int 0, .int (nI (k + 1))])), (v9_2, .inl (gC G 2, m9_2, .inl f9_2))] H := hP
  have hD : va_D A [(o, .inr (1, [.ref v9_2, .int 0, .int 0, .int (nI (k + 1))])), (v9_2, .inl (gC G 2, m9_2, .inl f9_2))] := hD
  refine W.eq (g2 := F0 m 5 ls [.ref o]) rfl ?_
  refine lv_pop hx hb dJ4_append_cf468_5 rfl ?_
  refine lv_aload_n hx hb dJ4_append_cf468_6 rfl (lv_at hl 0 rfl) ?_
  exact weA hx hb hr (Or.inl ⟨_, rfl⟩) hk ⟨rfl, v9_2, m9_2, _, rfl, hm9_2, hle9_2, hf9_2⟩ hP hD hS (Nat.le_of_ble_eq_true rfl) (Nat.le_of_ble_eq_true rfl) dJ4_append_cf468_7
