theorem nI_le9 {a b : Nat} (h : b ≤ a) (ha : a < 35) : nI b ≤ nI a := Int32.not_lt.mp (fun z => absurd ((nI_ltI (by omega) (by omega)).mp z) (by omega))
theorem nI_lt9 {a b : Nat} (h : a < b) (hb : b < 35) : ¬ nI b ≤ nI a := Int32.not_le.mpr ((nI_ltI (by omega) (by omega)).mpr h)
theorem clsS {G : GT} {U : State} {H : Heap} (h : EV G U H) : ClassAt U RJ0 ((gD G).1 0) := (h.K.1 0 _ rfl).2
theorem EV.c5 {G : GT} {s : State} {H : Heap} (hE : EV G s H) : ∃ cellB : Cell, H[ga G 5]? = some cellB ∧ cellB.vm.isStatics = false ∧ s.vm.findClass RJ0 = some cellB.cls := by
  obtain ⟨cell, h1, h2, h3, -⟩ := (hE.2.2.2.2.2.2.2.2.2.2.2.1.1)
  exact ⟨cell, h1, h2, h3⟩
theorem EV.c6 {G : GT} {s : State} {H : Heap} (hE : EV G s H) : ∃ cellB : Cell, H[ga G 6]? = some cellB ∧ cellB.vm.isStatics = false ∧ s.vm.findClass RJ0 = some cellB.cls := by
  obtain ⟨cell, h1, h2, h3, -⟩ := (hE.2.2.2.2.2.2.2.2.2.2.2.2.1)
  exact ⟨cell, h1, h2, h3⟩

set_option maxRecDepth 100000 in
set_option maxHeartbeats 4000000 in
theorem eqLoop {p : Program} {l : Launch} {e : Env} {s : State} {m : MethodId} {args : Array Value} {below : List Frame} {meth : Method} {c : Code} {Q : State → Prop} {G : GT} (C : CallFix p m c cJ1_equals_b5fdf 3 s args BW RJ1) (hE : EV G s s.heap) {u1 u2 n : Nat} {f g : Nat → Int32} (hn : n < 35) (hfg : ∀ j : Nat, j < n → f j = g j) (hP : va_P (gD G) vwCl [(u1, .inl (gC G 2, n, .inl f)), (u2, .inl (gC G 2, n, .inl g))] s.heap) : ∀ (fu i : Nat) (ls : Array Slot), n ≤ i + fu → i ≤ n → lv_has ls 3 [(2, .int (nI i)), (0, .ref u1), (1, .ref u2)] → (∀ ls : Array Slot, ls.size = 3 → W p l e (rmK 1 0 0) s m args below meth c s.heap [] 0 0 Q (F0 m 32 ls [])) → W p l e (rmK 1 0 0) s m args below meth c s.heap [] 0 0 Q (F0 m 9 ls []) := by
  have hx := C.1
  have hb := C.2.1
  have hml := C.2.2.1
  have hown := C.2.2.2.1
  have hw := C.2.2.2.2
  intro fu
  induction fu with
  | zero =>
    intro i ls h1 h2 hl kk
    refine lv_iload_n hx hb dJ1_equals_b5fdf_9 rfl (lv_at hl 0 rfl) ?_
    refine lv_aload_n hx hb dJ1_equals_b5fdf_10 rfl (lv_at hl 1 rfl) ?_
    refine va_alen (tys := gT G) (v := (nI n)) hx hb hE.K hP 0 2 rfl rfl rfl dJ1_equals_b5fdf_11 ?_
    refine lv_icmp_ge (tgt := 32) hx hb dJ1_equals_b5fdf_12 (by decide) (fun _ => ?_) (fun c_x => absurd (nI_le9 (by omega) (by omega)) c_x)
    exact kk ls hl.1
  | succ fu ih =>
    intro i ls h1 h2 hl kk
    rcases Nat.lt_or_ge i n with h | h
    · skip
      refine lv_iload_n hx hb dJ1_equals_b5fdf_9 rfl (lv_at hl 0 rfl) ?_
      refine lv_aload_n hx hb dJ1_equals_b5fdf_10 rfl (lv_at hl 1 rfl) ?_
      refine va_alen (tys := gT G) (v := (nI n)) hx hb hE.K hP 0 2 rfl rfl rfl dJ1_equals_b5fdf_11 ?_
      refine lv_icmp_ge (tgt := 32) hx hb dJ1_equals_b5fdf_12 (by decide) (fun c_x => absurd c_x (nI_lt9 h hn)) (fun _ => ?_)
      refine lv_aload_n hx hb dJ1_equals_b5fdf_15 rfl (lv_at hl 1 rfl) ?_
      refine lv_iload_n hx hb dJ1_equals_b5fdf_16 rfl (lv_at hl 0 rfl) ?_
      refine va_bald (tys := gT G) hx hb hE.K hP 0 2 rfl rfl (vp_in_nI h (by omega)) dJ1_equals_b5fdf_17 ?_
      refine lv_aload_n hx hb dJ1_equals_b5fdf_18 rfl (lv_at hl 2 rfl) ?_
      refine lv_iload_n hx hb dJ1_equals_b5fdf_19 rfl (lv_at hl 0 rfl) ?_
      refine va_bald (tys := gT G) hx hb hE.K hP 1 2 rfl rfl (vp_in_nI h (by omega)) dJ1_equals_b5fdf_20 ?_
      refine lv_icmp_eq (tgt := 26) hx hb dJ1_equals_b5fdf_21 (by decide) (fun _ => ?_) (fun c_x => absurd (by rw [nI_clamp (by omega)]; exact hfg i h) c_x)
      refine lv_iinc (v := (nI (i + 1))) (lv' := [(2, .int (nI (i + 1))), (0, .ref u1), (1, .ref u2)]) hx hb dJ1_equals_b5fdf_26 hl (k := 0) rfl (nI_1 i) (Nat.le_of_ble_eq_true rfl) rfl (fun ls hl => ?_)
      refine lv_goto (tgt := 9) hx hb dJ1_equals_b5fdf_29 (by decide) ?_
      exact ih (i + 1) ls (by omega) (by omega) (lv_sub hl [0, 1, 2] rfl) kk
    · skip
      refine lv_iload_n hx hb dJ1_equals_b5fdf_9 rfl (lv_at hl 0 rfl) ?_
      refine lv_aload_n hx hb dJ1_equals_b5fdf_10 rfl (lv_at hl 1 rfl) ?_
      refine va_alen (tys := gT G) (v := (nI n)) hx hb hE.K hP 0 2 rfl rfl rfl dJ1_equals_b5fdf_11 ?_
      refine lv_icmp_ge (tgt := 32) hx hb dJ1_equals_b5fdf_12 (by decide) (fun _ => ?_) (fun c_x => absurd (nI_le9 (by omega) (by omega)) c_x)
      exact kk ls hl.1

set_option maxRecDepth 100000 in
set_option maxHeartbeats 4000000 in
theorem s_eqB (l : Launch) (G : GT) (u1 u2 n : Nat) (f g : Nat → Int32) (hn : n < 35) (hfg : ∀ j : Nat, j < n → f j = g j) : RO l G yJ1_equals_b5fdf cJ1_equals_b5fdf 3 (some .boolean) 1 [.ref u1, .ref u2] [(u1, .inl (gC G 2, n, .inl f)), (u2, .inl (gC G 2, n, .inl g))] (some (.int 1)) := by
  refine RO.ofW (own := RJ1) rfl (plainFor_of_name pnN_RJ1) (Nat.le_of_ble_eq_true rfl) ?_
  intro p e s m below meth c C hr hk hE hP ls hl
  have hx := C.1
  have hb := C.2.1
  have hml := C.2.2.1
  have hown := C.2.2.2.1
  have hw := C.2.2.2.2
  have hl : lv_has ls 3 [(0, .ref u1), (1, .ref u2)] := hl
  refine lv_aload_n hx hb dJ1_equals_b5fdf_0 rfl (lv_at hl 0 rfl) ?_
  refine va_alen (tys := gT G) (v := (nI n)) hx hb hE.K hP 0 2 rfl rfl rfl dJ1_equals_b5fdf_1 ?_
  refine lv_aload_n hx hb dJ1_equals_b5fdf_2 rfl (lv_at hl 1 rfl) ?_
  refine va_alen (tys := gT G) (v := (nI n)) hx hb hE.K hP 1 2 rfl rfl rfl dJ1_equals_b5fdf_3 ?_
  refine lv_icmp_ne (tgt := 34) hx hb dJ1_equals_b5fdf_4 (by decide) (fun c_x => absurd rfl c_x) (fun _ => ?_)
  refine lv_iconst (v := (0 : Int32)) hx hb dJ1_equals_b5fdf_7 qi_0 ?_
  refine lv_istore_n (lv' := [(2, .int (0 : Int32)), (0, .ref u1), (1, .ref u2)]) hx hb dJ1_equals_b5fdf_8 rfl hl (Nat.le_of_ble_eq_true rfl) rfl (fun ls hl => ?_)
  refine eqLoop C hE hn hfg hP n 0 ls (by omega) (Nat.zero_le _) (lv_sub hl [0, 1, 2] rfl) (fun ls hl1 => ?_)
  refine lv_iconst (v := (1 : Int32)) hx hb dJ1_equals_b5fdf_32 qi_1 ?_
  exact re_z (ty := .boolean) hx hb hr hk (by decide) dJ1_equals_b5fdf_33 rfl

set_option maxRecDepth 100000 in
set_option maxHeartbeats 4000000 in
theorem s_eqSame (l : Launch) (G : GT) (q : Nat) : RO l G yJ0_equals_9ea2d cJ0_equals_9ea2d 3 (some .boolean) 2 [.ref q, .ref q] [] (some (.int 1)) := by
  refine RO.ofW (own := RJ0) rfl (plainFor_of_name pnN_RJ0) (Nat.le_of_ble_eq_true rfl) ?_
  intro p e s m below meth c C hr hk hE hP ls hl
  have hx := C.1
  have hb := C.2.1
  have hml := C.2.2.1
  have hown := C.2.2.2.1
  have hw := C.2.2.2.2
  have hl : lv_has ls 3 [(0, .ref q), (1, .ref q)] := hl
  refine lv_aload_n hx hb dJ0_equals_9ea2d_0 rfl (lv_at hl 0 rfl) ?_
  refine lv_aload_n hx hb dJ0_equals_9ea2d_1 rfl (lv_at hl 1 rfl) ?_
  refine lv_acmp_ne (rx := some q) (ry := some q) (tgt := 7) hx hb dJ0_equals_9ea2d_2 (by decide) (fun c_x => absurd rfl c_x) (fun _ => ?_)
  refine lv_iconst (v := (1 : Int32)) hx hb dJ0_equals_9ea2d_5 qi_1 ?_
  exact re_z (ty := .boolean) hx hb hr hk (by decide) dJ0_equals_9ea2d_6 rfl

set_option maxRecDepth 100000 in
set_option maxHeartbeats 4000000 in
theorem s_eqTwo (l : Launch) (G : GT) (q1 u1 q2 u2 n : Nat) (f g : Nat → Int32) (hn : n < 35) (hfg : ∀ j : Nat, j < n → f j = g j) : RO l G yJ0_equals_9ea2d cJ0_equals_9ea2d 3 (some .boolean) 2 [.ref q1, .ref q2] [(q1, .inr (0, [.ref u1, .int 0, .int 0, .int 0])), (u1, .inl (gC G 2, n, .inl f)), (q2, .inr (0, [.ref u2, .int 0, .int 0, .int 0])), (u2, .inl (gC G 2, n, .inl g))] (some (.int 1)) := by
  refine RO.ofW (own := RJ0) rfl (plainFor_of_name pnN_RJ0) (Nat.le_of_ble_eq_true rfl) ?_
  intro p e s m below meth c C hr hk hE hP ls hl
  have hx := C.1
  have hb := C.2.1
  have hml := C.2.2.1
  have hown := C.2.2.2.1
  have hw := C.2.2.2.2
  have hl : lv_has ls 3 [(0, .ref q1), (1, .ref q2)] := hl
  refine lv_aload_n hx hb dJ0_equals_9ea2d_0 rfl (lv_at hl 0 rfl) ?_
  refine lv_aload_n hx hb dJ0_equals_9ea2d_1 rfl (lv_at hl 1 rfl) ?_
  refine lv_acmp_ne (rx := some q1) (ry := some q2) (tgt := 7) hx hb dJ0_equals_9ea2d_2 (by decide) (fun _ => ?_) (fun _ => ?_)
  · refine lv_aload_n hx hb dJ0_equals_9ea2d_7 rfl (lv_at hl 1 rfl) ?_
    refine va_instS (nm := RJ0) hx hb hown (hw _ bw1635) (clsS hE) (rv0 hE.K hP (q0 := 2) rfl) dJ0_equals_9ea2d_8 ?_
    refine lv_if_eq (tgt := 54) hx hb dJ0_equals_9ea2d_11 (by decide) (fun c_x => absurd c_x (by decide)) (fun _ => ?_)
    refine lv_aload_n hx hb dJ0_equals_9ea2d_14 rfl (lv_at hl 1 rfl) ?_
    refine va_castS (nm := RJ0) hx hb hown (hw _ bw1635) (clsS hE) (rv0 hE.K hP (q0 := 2) rfl) dJ0_equals_9ea2d_15 ?_
    refine lv_astore_n (lv' := [(2, .ref q2), (0, .ref q1), (1, .ref q2)]) hx hb dJ0_equals_9ea2d_18 rfl hl (Nat.le_of_ble_eq_true rfl) rfl (fun ls hl => ?_)
    refine va_gets hx hb hE.2.2.2.2.2.2.1 va_S.rf hown (hw _ bw1035) (fun _ h9 => h9) dJ0_equals_9ea2d_19 ?_
    refine lv_if_eq (tgt := 36) hx hb dJ0_equals_9ea2d_22 (by decide) (fun c_x => absurd c_x (by decide)) (fun _ => ?_)
    refine lv_aload_n hx hb dJ0_equals_9ea2d_25 rfl (lv_at hl 1 rfl) ?_
    refine va_get (D := gD G) (cl := vwCl) (tys := gT G) (ci := 0) (v := .int 0) (C := RJ0) (T := TJ0) (N := 4) hx hb hw inB_J0 hown hE.K hP 0 rfl rfl 1 (by decide) (hw _ bw1064) (fun _ h9 => h9) rfl dJ0_equals_9ea2d_26 ?_
    refine lv_aload_n hx hb dJ0_equals_9ea2d_29 rfl (lv_at hl 0 rfl) ?_
    refine va_get (D := gD G) (cl := vwCl) (tys := gT G) (ci := 0) (v := .int 0) (C := RJ0) (T := TJ0) (N := 4) hx hb hw inB_J0 hown hE.K hP 2 rfl rfl 1 (by decide) (hw _ bw1064) (fun _ h9 => h9) rfl dJ0_equals_9ea2d_30 ?_
    refine lv_icmp_ne (tgt := 54) hx hb dJ0_equals_9ea2d_33 (by decide) (fun c_x => absurd (show (0 : Int32) = (0 : Int32) from by decide) c_x) (fun _ => ?_)
    refine lv_aload_n hx hb dJ0_equals_9ea2d_36 rfl (lv_at hl 1 rfl) ?_
    refine va_get (D := gD G) (cl := vwCl) (tys := gT G) (ci := 0) (v := .ref u1) (C := RJ0) (T := TJ0) (N := 4) hx hb hw inB_J0 hown hE.K hP 0 rfl rfl 0 (by decide) (hw _ bw1063) (fun _ h9 => h9) rfl dJ0_equals_9ea2d_37 ?_
    refine lv_aload_n hx hb dJ0_equals_9ea2d_40 rfl (lv_at hl 0 rfl) ?_
    refine va_get (D := gD G) (cl := vwCl) (tys := gT G) (ci := 0) (v := .ref u2) (C := RJ0) (T := TJ0) (N := 4) hx hb hw inB_J0 hown hE.K hP 2 rfl rfl 0 (by decide) (hw _ bw1063) (fun _ h9 => h9) rfl dJ0_equals_9ea2d_41 ?_
    refine rcSf (st1 := [.int (1 : Int32)]) (as := [.ref u1, .ref u2]) (rest := []) C (s_eqB l G u1 u2 n f g hn hfg) F_J1_equals_b5fdf rfl bw1636 bw1637 hE (show va_P (gD G) vwCl [(u1, .inl (gC G 2, n, .inl f)), (u2, .inl (gC G 2, n, .inl g))] _ from hP.sub [1, 3] rfl) hl.1 dJ0_equals_9ea2d_44 ⟨Nat.le_of_ble_eq_true rfl, Nat.le_of_ble_eq_true rfl⟩ rfl (Nat.le_of_ble_eq_true rfl) ⟨Nat.le_of_ble_eq_true rfl, Nat.le_of_ble_eq_true rfl⟩ rfl ?_
    refine lv_if_eq (tgt := 54) hx hb dJ0_equals_9ea2d_47 (by decide) (fun c_x => absurd c_x (by decide)) (fun _ => ?_)
    refine lv_iconst (v := (1 : Int32)) hx hb dJ0_equals_9ea2d_50 qi_1 ?_
    refine lv_goto (tgt := 55) hx hb dJ0_equals_9ea2d_51 (by decide) ?_
    exact re_z (ty := .boolean) hx hb hr hk (by decide) dJ0_equals_9ea2d_55 rfl
  · refine lv_iconst (v := (1 : Int32)) hx hb dJ0_equals_9ea2d_5 qi_1 ?_
    exact re_z (ty := .boolean) hx hb hr hk (by decide) dJ0_equals_9ea2d_6 rfl

theorem eq_text (l : Launch) (G : GT) {q1 q2 : Nat} {o : Option (Option Int64)} {w1 w2 : va_W} (h1 : TXO G q1 o w1) (h2 : TXO G q2 o w2) : RO l G yJ0_equals_9ea2d cJ0_equals_9ea2d 3 (some .boolean) 2 [.ref q1, .ref q2] (w1 ++ w2) (some (.int 1)) := by
  rcases o with _ | _ | x
  · obtain ⟨rfl, rfl⟩ := h1
    obtain ⟨rfl, rfl⟩ := h2
    exact s_eqSame l G _
  · obtain ⟨rfl, rfl⟩ := h1
    obtain ⟨rfl, rfl⟩ := h2
    exact s_eqSame l G _
  · obtain ⟨u1, k1, d1, f1, rfl, a1, b1⟩ := h1
    obtain ⟨u2, k2, d2, f2, rfl, a2, b2⟩ := h2
    obtain ⟨rfl, rfl⟩ := a1.uniq a2
    exact s_eqTwo l G q1 u1 q2 u2 (k1 + d1) f1 f2 (by have := a1.le; omega) (fun j hj => (b1.2 j hj).trans (b2.2 j hj).symm)
theorem TXO.recv {G : GT} {q : Nat} {o : Option (Option Int64)} {w : va_W} {s : State} {H : Heap} (h : TXO G q o w) (hE : EV G s H) (hP : va_P (gD G) vwCl w H) : ∃ cellB : Cell, H[q]? = some cellB ∧ cellB.vm.isStatics = false ∧ s.vm.findClass RJ0 = some cellB.cls := by
  rcases o with _ | _ | x
  · obtain ⟨rfl, rfl⟩ := h
    exact hE.c6
  · obtain ⟨rfl, rfl⟩ := h
    exact hE.c5
  · obtain ⟨u1, k1, d1, f1, rfl, -, -⟩ := h
    exact rv0 hE.K hP (q0 := 0) rfl
