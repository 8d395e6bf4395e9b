set_option maxRecDepth 100000 in
set_option maxHeartbeats 4000000 in
theorem c_X0_isRepeated (l : Launch) (G : GT) (a : Nat → Nat) (S : SX) (p0 : Int32) (h0 : vp_in p0 6) : RO l G yX0_isRepeated cX0_isRepeated 3 (some .boolean) 2 [.ref (a 0), .int p0] (wX G a S) (some (.int (fX0_isRepeated S p0))) := by
  refine RO.ofW (own := RX0) rfl (by decide +kernel) (Nat.le_of_ble_eq_true rfl) ?_
  intro p e s m below meth c C hr hk hE hP ls hl
  have hx := C.1
  have hb := C.2.1
  have hown := C.2.2.2.1
  have hw := C.2.2.2.2
  have hl : lv_has ls 3 [(0, .ref (a 0)), (1, .int p0)] := hl
  refine lv_iconst (v := (0 : Int32)) hx hb dX0_isRepeated_0 (by decide) ?_
  refine lv_istore_n (lv' := [(2, .int (0 : Int32)), (0, .ref (a 0)), (1, .int p0)]) hx hb dX0_isRepeated_1 rfl hl (Nat.le_of_ble_eq_true rfl) rfl (fun ls hl => ?_)
  refine lv_iload_n hx hb dX0_isRepeated_2 rfl (lv_at hl 0 rfl) ?_
  refine lv_iload_n hx hb dX0_isRepeated_3 rfl (lv_at hl 2 rfl) ?_
  refine lv_icmp_ge (tgt := 24) hx hb dX0_isRepeated_4 (by decide) (fun c_1 => ?_) (fun c_1 => ?_)
  · refine lv_iconst (v := (0 : Int32)) hx hb dX0_isRepeated_24 (by decide) ?_
    exact re_z (ty := .boolean) hx hb hr hk (by decide) dX0_isRepeated_25 (ei (if_pos c_1))
  · refine lv_aload_n hx hb dX0_isRepeated_7 rfl (lv_at hl 1 rfl) ?_
    refine lv_iload_n hx hb dX0_isRepeated_8 rfl (lv_at hl 2 rfl) ?_
    refine lv_iload_n hx hb dX0_isRepeated_9 rfl (lv_at hl 0 rfl) ?_
    refine rcVi (as := [.int p0, .int (0 : Int32)]) (rest := []) (cl := RX0) C (c_X0_isSameLine l G a S p0 (0 : Int32) h0 (vp_in_lit 0)) F_X0_isSameLine rfl bw240 bw242 bw10 hE hP (va_recv hE.K hP (ci := 2) (q0 := 0) rfl rfl) hl.1 dX0_isRepeated_10 ⟨Nat.le_of_ble_eq_true rfl, Nat.le_of_ble_eq_true rfl⟩ rfl (Nat.le_of_ble_eq_true rfl) ⟨Nat.zero_le _, Nat.zero_le _⟩ ?_
    refine lv_if_eq (tgt := 18) hx hb dX0_isRepeated_13 (by decide) (fun c_2 => ?_) (fun c_2 => ?_)
    · refine lv_iinc (v := (1 : Int32)) (lv' := [(2, .int (1 : Int32)), (0, .ref (a 0)), (1, .int p0)]) hx hb dX0_isRepeated_18 hl (k := 0) rfl (by first | rfl | decide) (Nat.le_of_ble_eq_true rfl) rfl (fun ls hl => ?_)
      refine lv_goto (tgt := 2) hx hb dX0_isRepeated_21 (by decide) ?_
      refine lv_iload_n hx hb dX0_isRepeated_2 rfl (lv_at hl 0 rfl) ?_
      refine lv_iload_n hx hb dX0_isRepeated_3 rfl (lv_at hl 2 rfl) ?_
      refine lv_icmp_ge (tgt := 24) hx hb dX0_isRepeated_4 (by decide) (fun c_3 => ?_) (fun c_3 => ?_)
      · refine lv_iconst (v := (0 : Int32)) hx hb dX0_isRepeated_24 (by decide) ?_
        exact re_z (ty := .boolean) hx hb hr hk (by decide) dX0_isRepeated_25 (ei (Eq.trans (if_neg c_1) (Eq.trans (if_pos c_2) (if_pos c_3))))
      · refine lv_aload_n hx hb dX0_isRepeated_7 rfl (lv_at hl 1 rfl) ?_
        refine lv_iload_n hx hb dX0_isRepeated_8 rfl (lv_at hl 2 rfl) ?_
        refine lv_iload_n hx hb dX0_isRepeated_9 rfl (lv_at hl 0 rfl) ?_
        refine rcVi (as := [.int p0, .int (1 : Int32)]) (rest := []) (cl := RX0) C (c_X0_isSameLine l G a S p0 (1 : Int32) h0 (vp_in_lit 1)) F_X0_isSameLine rfl bw240 bw242 bw10 hE hP (va_recv hE.K hP (ci := 2) (q0 := 0) rfl rfl) hl.1 dX0_isRepeated_10 ⟨Nat.le_of_ble_eq_true rfl, Nat.le_of_ble_eq_true rfl⟩ rfl (Nat.le_of_ble_eq_true rfl) ⟨Nat.zero_le _, Nat.zero_le _⟩ ?_
        refine lv_if_eq (tgt := 18) hx hb dX0_isRepeated_13 (by decide) (fun c_4 => ?_) (fun c_4 => ?_)
        · refine lv_iinc (v := (2 : Int32)) (lv' := [(2, .int (2 : Int32)), (0, .ref (a 0)), (1, .int p0)]) hx hb dX0_isRepeated_18 hl (k := 0) rfl (by first | rfl | decide) (Nat.le_of_ble_eq_true rfl) rfl (fun ls hl => ?_)
          refine lv_goto (tgt := 2) hx hb dX0_isRepeated_21 (by decide) ?_
          refine lv_iload_n hx hb dX0_isRepeated_2 rfl (lv_at hl 0 rfl) ?_
          refine lv_iload_n hx hb dX0_isRepeated_3 rfl (lv_at hl 2 rfl) ?_
          refine lv_icmp_ge (tgt := 24) hx hb dX0_isRepeated_4 (by decide) (fun c_5 => ?_) (fun c_5 => ?_)
          · refine lv_iconst (v := (0 : Int32)) hx hb dX0_isRepeated_24 (by decide) ?_
            exact re_z (ty := .boolean) hx hb hr hk (by decide) dX0_isRepeated_25 (ei (Eq.trans (if_neg c_1) (Eq.trans (if_pos c_2) (Eq.trans (if_neg c_3) (Eq.trans (if_pos c_4) (if_pos c_5))))))
          · refine lv_aload_n hx hb dX0_isRepeated_7 rfl (lv_at hl 1 rfl) ?_
            refine lv_iload_n hx hb dX0_isRepeated_8 rfl (lv_at hl 2 rfl) ?_
            refine lv_iload_n hx hb dX0_isRepeated_9 rfl (lv_at hl 0 rfl) ?_
            refine rcVi (as := [.int p0, .int (2 : Int32)]) (rest := []) (cl := RX0) C (c_X0_isSameLine l G a S p0 (2 : Int32) h0 (vp_in_lit 2)) F_X0_isSameLine rfl bw240 bw242 bw10 hE hP (va_recv hE.K hP (ci := 2) (q0 := 0) rfl rfl) hl.1 dX0_isRepeated_10 ⟨Nat.le_of_ble_eq_true rfl, Nat.le_of_ble_eq_true rfl⟩ rfl (Nat.le_of_ble_eq_true rfl) ⟨Nat.zero_le _, Nat.zero_le _⟩ ?_
            refine lv_if_eq (tgt := 18) hx hb dX0_isRepeated_13 (by decide) (fun c_6 => ?_) (fun c_6 => ?_)
            · refine lv_iinc (v := (3 : Int32)) (lv' := [(2, .int (3 : Int32)), (0, .ref (a 0)), (1, .int p0)]) hx hb dX0_isRepeated_18 hl (k := 0) rfl (by first | rfl | decide) (Nat.le_of_ble_eq_true rfl) rfl (fun ls hl => ?_)
              refine lv_goto (tgt := 2) hx hb dX0_isRepeated_21 (by decide) ?_
              refine lv_iload_n hx hb dX0_isRepeated_2 rfl (lv_at hl 0 rfl) ?_
              refine lv_iload_n hx hb dX0_isRepeated_3 rfl (lv_at hl 2 rfl) ?_
              refine lv_icmp_ge (tgt := 24) hx hb dX0_isRepeated_4 (by decide) (fun c_7 => ?_) (fun c_7 => ?_)
              · refine lv_iconst (v := (0 : Int32)) hx hb dX0_isRepeated_24 (by decide) ?_
                exact re_z (ty := .boolean) hx hb hr hk (by decide) dX0_isRepeated_25 (ei (Eq.trans (if_neg c_1) (Eq.trans (if_pos c_2) (Eq.trans (if_neg c_3) (Eq.trans (if_pos c_4) (Eq.trans (if_neg c_5) (Eq.trans (if_pos c_6) (if_pos c_7))))))))
              · refine lv_aload_n hx hb dX0_isRepeated_7 rfl (lv_at hl 1 rfl) ?_
                refine lv_iload_n hx hb dX0_isRepeated_8 rfl (lv_at hl 2 rfl) ?_
                refine lv_iload_n hx hb dX0_isRepeated_9 rfl (lv_at hl 0 rfl) ?_
                refine rcVi (as := [.int p0, .int (3 : Int32)]) (rest := []) (cl := RX0) C (c_X0_isSameLine l G a S p0 (3 : Int32) h0 (vp_in_lit 3)) F_X0_isSameLine rfl bw240 bw242 bw10 hE hP (va_recv hE.K hP (ci := 2) (q0 := 0) rfl rfl) hl.1 dX0_isRepeated_10 ⟨Nat.le_of_ble_eq_true rfl, Nat.le_of_ble_eq_true rfl⟩ rfl (Nat.le_of_ble_eq_true rfl) ⟨Nat.zero_le _, Nat.zero_le _⟩ ?_
                refine lv_if_eq (tgt := 18) hx hb dX0_isRepeated_13 (by decide) (fun c_8 => ?_) (fun c_8 => ?_)
                · refine lv_iinc (v := (4 : Int32)) (lv' := [(2, .int (4 : Int32)), (0, .ref (a 0)), (1, .int p0)]) hx hb dX0_isRepeated_18 hl (k := 0) rfl (by first | rfl | decide) (Nat.le_of_ble_eq_true rfl) rfl (fun ls hl => ?_)
                  refine lv_goto (tgt := 2) hx hb dX0_isRepeated_21 (by decide) ?_
                  refine lv_iload_n hx hb dX0_isRepeated_2 rfl (lv_at hl 0 rfl) ?_
                  refine lv_iload_n hx hb dX0_isRepeated_3 rfl (lv_at hl 2 rfl) ?_
                  refine lv_icmp_ge (tgt := 24) hx hb dX0_isRepeated_4 (by decide) (fun c_9 => ?_) (fun c_9 => ?_)
                  · refine lv_iconst (v := (0 : Int32)) hx hb dX0_isRepeated_24 (by decide) ?_
                    exact re_z (ty := .boolean) hx hb hr hk (by decide) dX0_isRepeated_25 (ei (Eq.trans (if_neg c_1) (Eq.trans (if_pos c_2) (Eq.trans (if_neg c_3) (Eq.trans (if_pos c_4) (Eq.trans (if_neg c_5) (Eq.trans (if_pos c_6) (Eq.trans (if_neg c_7) (Eq.trans (if_pos c_8) (if_pos c_9))))))))))
                  · refine lv_aload_n hx hb dX0_isRepeated_7 rfl (lv_at hl 1 rfl) ?_
                    refine lv_iload_n hx hb dX0_isRepeated_8 rfl (lv_at hl 2 rfl) ?_
                    refine lv_iload_n hx hb dX0_isRepeated_9 rfl (lv_at hl 0 rfl) ?_
                    refine rcVi (as := [.int p0, .int (4 : Int32)]) (rest := []) (cl := RX0) C (c_X0_isSameLine l G a S p0 (4 : Int32) h0 (vp_in_lit 4)) F_X0_isSameLine rfl bw240 bw242 bw10 hE hP (va_recv hE.K hP (ci := 2) (q0 := 0) rfl rfl) hl.1 dX0_isRepeated_10 ⟨Nat.le_of_ble_eq_true rfl, Nat.le_of_ble_eq_true rfl⟩ rfl (Nat.le_of_ble_eq_true rfl) ⟨Nat.zero_le _, Nat.zero_le _⟩ ?_
                    refine lv_if_eq (tgt := 18) hx hb dX0_isRepeated_13 (by decide) (fun c_10 => ?_) (fun c_10 => ?_)
                    · refine lv_iinc (v := (5 : Int32)) (lv' := [(2, .int (5 : Int32)), (0, .ref (a 0)), (1, .int p0)]) hx hb dX0_isRepeated_18 hl (k := 0) rfl (by first | rfl | decide) (Nat.le_of_ble_eq_true rfl) rfl (fun ls hl => ?_)
                      refine lv_goto (tgt := 2) hx hb dX0_isRepeated_21 (by decide) ?_
                      refine lv_iload_n hx hb dX0_isRepeated_2 rfl (lv_at hl 0 rfl) ?_
                      refine lv_iload_n hx hb dX0_isRepeated_3 rfl (lv_at hl 2 rfl) ?_
                      refine lv_icmp_ge (tgt := 24) hx hb dX0_isRepeated_4 (by decide) (fun c_11 => ?_) (fun c_11 => ?_)
                      · refine lv_iconst (v := (0 : Int32)) hx hb dX0_isRepeated_24 (by decide) ?_
                        exact re_z (ty := .boolean) hx hb hr hk (by decide) dX0_isRepeated_25 (ei (Eq.trans (if_neg c_1) (Eq.trans (if_pos c_2) (Eq.trans (if_neg c_3) (Eq.trans (if_pos c_4) (Eq.trans (if_neg c_5) (Eq.trans (if_pos c_6) (Eq.trans (if_neg c_7) (Eq.trans (if_pos c_8) (Eq.trans (if_neg c_9) (Eq.trans (if_pos c_10) (if_pos c_11))))))))))))
                      · refine lv_aload_n hx hb dX0_isRepeated_7 rfl (lv_at hl 1 rfl) ?_
                        refine lv_iload_n hx hb dX0_isRepeated_8 rfl (lv_at hl 2 rfl) ?_
                        refine lv_iload_n hx hb dX0_isRepeated_9 rfl (lv_at hl 0 rfl) ?_
                        refine rcVi (as := [.int p0, .int (5 : Int32)]) (rest := []) (cl := RX0) C (c_X0_isSameLine l G a S p0 (5 : Int32) h0 (vp_in_lit 5)) F_X0_isSameLine rfl bw240 bw242 bw10 hE hP (va_recv hE.K hP (ci := 2) (q0 := 0) rfl rfl) hl.1 dX0_isRepeated_10 ⟨Nat.le_of_ble_eq_true rfl, Nat.le_of_ble_eq_true rfl⟩ rfl (Nat.le_of_ble_eq_true rfl) ⟨Nat.zero_le _, Nat.zero_le _⟩ ?_
                        refine lv_if_eq (tgt := 18) hx hb dX0_isRepeated_13 (by decide) (fun c_12 => ?_) (fun c_12 => ?_)
                        · refine lv_iinc (v := (6 : Int32)) (lv' := [(2, .int (6 : Int32)), (0, .ref (a 0)), (1, .int p0)]) hx hb dX0_isRepeated_18 hl (k := 0) rfl (by first | rfl | decide) (Nat.le_of_ble_eq_true rfl) rfl (fun ls hl => ?_)
                          refine lv_goto (tgt := 2) hx hb dX0_isRepeated_21 (by decide) ?_
                          refine lv_iload_n hx hb dX0_isRepeated_2 rfl (lv_at hl 0 rfl) ?_
                          refine lv_iload_n hx hb dX0_isRepeated_3 rfl (lv_at hl 2 rfl) ?_
                          refine lv_icmp_ge (tgt := 24) hx hb dX0_isRepeated_4 (by decide) (fun _ => ?_) (fun c_x => absurd (Int32.le_of_lt (vin_lt (by decide) h0)) c_x)
                          refine lv_iconst (v := (0 : Int32)) hx hb dX0_isRepeated_24 (by decide) ?_
                          exact re_z (ty := .boolean) hx hb hr hk (by decide) dX0_isRepeated_25 (ei (Eq.trans (if_neg c_1) (Eq.trans (if_pos c_2) (Eq.trans (if_neg c_3) (Eq.trans (if_pos c_4) (Eq.trans (if_neg c_5) (Eq.trans (if_pos c_6) (Eq.trans (if_neg c_7) (Eq.trans (if_pos c_8) (Eq.trans (if_neg c_9) (Eq.trans (if_pos c_10) (Eq.trans (if_neg c_11) (if_pos c_12)))))))))))))
                        · refine lv_iconst (v := (1 : Int32)) hx hb dX0_isRepeated_16 (by decide) ?_
                          exact re_z (ty := .boolean) hx hb hr hk (by decide) dX0_isRepeated_17 (ei (Eq.trans (if_neg c_1) (Eq.trans (if_pos c_2) (Eq.trans (if_neg c_3) (Eq.trans (if_pos c_4) (Eq.trans (if_neg c_5) (Eq.trans (if_pos c_6) (Eq.trans (if_neg c_7) (Eq.trans (if_pos c_8) (Eq.trans (if_neg c_9) (Eq.trans (if_pos c_10) (Eq.trans (if_neg c_11) (if_neg c_12)))))))))))))
                    · refine lv_iconst (v := (1 : Int32)) hx hb dX0_isRepeated_16 (by decide) ?_
                      exact re_z (ty := .boolean) hx hb hr hk (by decide) dX0_isRepeated_17 (ei (Eq.trans (if_neg c_1) (Eq.trans (if_pos c_2) (Eq.trans (if_neg c_3) (Eq.trans (if_pos c_4) (Eq.trans (if_neg c_5) (Eq.trans (if_pos c_6) (Eq.trans (if_neg c_7) (Eq.trans (if_pos c_8) (Eq.trans (if_neg c_9) (if_neg c_10)))))))))))
                · refine lv_iconst (v := (1 : Int32)) hx hb dX0_isRepeated_16 (by decide) ?_
                  exact re_z (ty := .boolean) hx hb hr hk (by decide) dX0_isRepeated_17 (ei (Eq.trans (if_neg c_1) (Eq.trans (if_pos c_2) (Eq.trans (if_neg c_3) (Eq.trans (if_pos c_4) (Eq.trans (if_neg c_5) (Eq.trans (if_pos c_6) (Eq.trans (if_neg c_7) (if_neg c_8)))))))))
            · refine lv_iconst (v := (1 : Int32)) hx hb dX0_isRepeated_16 (by decide) ?_
              exact re_z (ty := .boolean) hx hb hr hk (by decide) dX0_isRepeated_17 (ei (Eq.trans (if_neg c_1) (Eq.trans (if_pos c_2) (Eq.trans (if_neg c_3) (Eq.trans (if_pos c_4) (Eq.trans (if_neg c_5) (if_neg c_6)))))))
        · refine lv_iconst (v := (1 : Int32)) hx hb dX0_isRepeated_16 (by decide) ?_
          exact re_z (ty := .boolean) hx hb hr hk (by decide) dX0_isRepeated_17 (ei (Eq.trans (if_neg c_1) (Eq.trans (if_pos c_2) (Eq.trans (if_neg c_3) (if_neg c_4)))))
    · refine lv_iconst (v := (1 : Int32)) hx hb dX0_isRepeated_16 (by decide) ?_
      exact re_z (ty := .boolean) hx hb hr hk (by decide) dX0_isRepeated_17 (ei (Eq.trans (if_neg c_1) (if_neg c_2)))

