set_option maxRecDepth 100000 in
set_option maxHeartbeats 4000000 in
theorem c_X0_countRepeated (l : Launch) (G : GT) (a : Nat → Nat) (S : SX) : RO l G yX0_countRepeated cX0_countRepeated 3 (some .int) 3 [.ref (a 0)] (wX G a S) (some (.int (fX0_countRepeated S))) := by
  refine RO.ofW (own := RX0) rfl (by decide +kernel) (Nat.le_of_ble_eq_true rfl) ?_
  intro p e s m below meth c C hr hk hE hP ls hl
  have hx := C.1
  have hb := C.2.1
  have hown := C.2.2.2.1
  have hw := C.2.2.2.2
  have hl : lv_has ls 3 [(0, .ref (a 0))] := hl
  refine lv_iconst (v := (0 : Int32)) hx hb dX0_countRepeated_0 (by decide) ?_
  refine lv_istore_n (lv' := [(1, .int (0 : Int32)), (0, .ref (a 0))]) hx hb dX0_countRepeated_1 rfl hl (Nat.le_of_ble_eq_true rfl) rfl (fun ls hl => ?_)
  refine lv_iconst (v := (1 : Int32)) hx hb dX0_countRepeated_2 (by decide) ?_
  refine lv_istore_n (lv' := [(2, .int (1 : Int32)), (1, .int (0 : Int32)), (0, .ref (a 0))]) hx hb dX0_countRepeated_3 rfl hl (Nat.le_of_ble_eq_true rfl) rfl (fun ls hl => ?_)
  refine lv_iload_n hx hb dX0_countRepeated_4 rfl (lv_at hl 0 rfl) ?_
  refine lv_bipush (v := (6 : Int32)) hx hb dX0_countRepeated_5 (by decide) ?_
  refine lv_icmp_ge (tgt := 27) hx hb dX0_countRepeated_7 (by decide) (fun c_x => absurd c_x (by decide)) (fun _ => ?_)
  refine lv_aload_n hx hb dX0_countRepeated_10 rfl (lv_at hl 2 rfl) ?_
  refine lv_iload_n hx hb dX0_countRepeated_11 rfl (lv_at hl 0 rfl) ?_
  refine rcVi (as := [.int (1 : Int32)]) (rest := []) (cl := RX0) C (c_X0_isRepeated l G a S (1 : Int32) (vp_in_lit 1)) F_X0_isRepeated rfl bw278 bw280 bw15 hE hP (rv2 hE.K hP (q0 := 0) rfl) hl.1 dX0_countRepeated_12 ⟨Nat.le_of_ble_eq_true rfl, Nat.le_of_ble_eq_true rfl⟩ rfl (Nat.le_of_ble_eq_true rfl) ⟨Nat.zero_le _, Nat.zero_le _⟩ ?_
  refine lv_if_eq (tgt := 21) hx hb dX0_countRepeated_15 (by decide) (fun c_1 => ?_) (fun c_1 => ?_)
  · refine lv_iinc (v := (2 : Int32)) (lv' := [(2, .int (2 : Int32)), (1, .int (0 : Int32)), (0, .ref (a 0))]) hx hb dX0_countRepeated_21 hl (k := 0) rfl (by first | rfl | decide) (Nat.le_of_ble_eq_true rfl) rfl (fun ls hl => ?_)
    refine lv_goto (tgt := 4) hx hb dX0_countRepeated_24 (by decide) ?_
    refine lv_iload_n hx hb dX0_countRepeated_4 rfl (lv_at hl 0 rfl) ?_
    refine lv_bipush (v := (6 : Int32)) hx hb dX0_countRepeated_5 (by decide) ?_
    refine lv_icmp_ge (tgt := 27) hx hb dX0_countRepeated_7 (by decide) (fun c_x => absurd c_x (by decide)) (fun _ => ?_)
    refine lv_aload_n hx hb dX0_countRepeated_10 rfl (lv_at hl 2 rfl) ?_
    refine lv_iload_n hx hb dX0_countRepeated_11 rfl (lv_at hl 0 rfl) ?_
    refine rcVi (as := [.int (2 : Int32)]) (rest := []) (cl := RX0) C (c_X0_isRepeated l G a S (2 : Int32) (vp_in_lit 2)) F_X0_isRepeated rfl bw278 bw280 bw15 hE hP (rv2 hE.K hP (q0 := 0) rfl) hl.1 dX0_countRepeated_12 ⟨Nat.le_of_ble_eq_true rfl, Nat.le_of_ble_eq_true rfl⟩ rfl (Nat.le_of_ble_eq_true rfl) ⟨Nat.zero_le _, Nat.zero_le _⟩ ?_
    refine lv_if_eq (tgt := 21) hx hb dX0_countRepeated_15 (by decide) (fun c_2 => ?_) (fun c_2 => ?_)
    · refine lv_iinc (v := (3 : Int32)) (lv' := [(2, .int (3 : Int32)), (1, .int (0 : Int32)), (0, .ref (a 0))]) hx hb dX0_countRepeated_21 hl (k := 0) rfl (by first | rfl | decide) (Nat.le_of_ble_eq_true rfl) rfl (fun ls hl => ?_)
      refine lv_goto (tgt := 4) hx hb dX0_countRepeated_24 (by decide) ?_
      refine lv_iload_n hx hb dX0_countRepeated_4 rfl (lv_at hl 0 rfl) ?_
      refine lv_bipush (v := (6 : Int32)) hx hb dX0_countRepeated_5 (by decide) ?_
      refine lv_icmp_ge (tgt := 27) hx hb dX0_countRepeated_7 (by decide) (fun c_x => absurd c_x (by decide)) (fun _ => ?_)
      refine lv_aload_n hx hb dX0_countRepeated_10 rfl (lv_at hl 2 rfl) ?_
      refine lv_iload_n hx hb dX0_countRepeated_11 rfl (lv_at hl 0 rfl) ?_
      refine rcVi (as := [.int (3 : Int32)]) (rest := []) (cl := RX0) C (c_X0_isRepeated l G a S (3 : Int32) (vp_in_lit 3)) F_X0_isRepeated rfl bw278 bw280 bw15 hE hP (rv2 hE.K hP (q0 := 0) rfl) hl.1 dX0_countRepeated_12 ⟨Nat.le_of_ble_eq_true rfl, Nat.le_of_ble_eq_true rfl⟩ rfl (Nat.le_of_ble_eq_true rfl) ⟨Nat.zero_le _, Nat.zero_le _⟩ ?_
      refine lv_if_eq (tgt := 21) hx hb dX0_countRepeated_15 (by decide) (fun c_3 => ?_) (fun c_3 => ?_)
      · refine lv_iinc (v := (4 : Int32)) (lv' := [(2, .int (4 : Int32)), (1, .int (0 : Int32)), (0, .ref (a 0))]) hx hb dX0_countRepeated_21 hl (k := 0) rfl (by first | rfl | decide) (Nat.le_of_ble_eq_true rfl) rfl (fun ls hl => ?_)
        refine lv_goto (tgt := 4) hx hb dX0_countRepeated_24 (by decide) ?_
        refine lv_iload_n hx hb dX0_countRepeated_4 rfl (lv_at hl 0 rfl) ?_
        refine lv_bipush (v := (6 : Int32)) hx hb dX0_countRepeated_5 (by decide) ?_
        refine lv_icmp_ge (tgt := 27) hx hb dX0_countRepeated_7 (by decide) (fun c_x => absurd c_x (by decide)) (fun _ => ?_)
        refine lv_aload_n hx hb dX0_countRepeated_10 rfl (lv_at hl 2 rfl) ?_
        refine lv_iload_n hx hb dX0_countRepeated_11 rfl (lv_at hl 0 rfl) ?_
        refine rcVi (as := [.int (4 : Int32)]) (rest := []) (cl := RX0) C (c_X0_isRepeated l G a S (4 : Int32) (vp_in_lit 4)) F_X0_isRepeated rfl bw278 bw280 bw15 hE hP (rv2 hE.K hP (q0 := 0) rfl) hl.1 dX0_countRepeated_12 ⟨Nat.le_of_ble_eq_true rfl, Nat.le_of_ble_eq_true rfl⟩ rfl (Nat.le_of_ble_eq_true rfl) ⟨Nat.zero_le _, Nat.zero_le _⟩ ?_
        refine lv_if_eq (tgt := 21) hx hb dX0_countRepeated_15 (by decide) (fun c_4 => ?_) (fun c_4 => ?_)
        · refine lv_iinc (v := (5 : Int32)) (lv' := [(2, .int (5 : Int32)), (1, .int (0 : Int32)), (0, .ref (a 0))]) hx hb dX0_countRepeated_21 hl (k := 0) rfl (by first | rfl | decide) (Nat.le_of_ble_eq_true rfl) rfl (fun ls hl => ?_)
          refine lv_goto (tgt := 4) hx hb dX0_countRepeated_24 (by decide) ?_
          refine lv_iload_n hx hb dX0_countRepeated_4 rfl (lv_at hl 0 rfl) ?_
          refine lv_bipush (v := (6 : Int32)) hx hb dX0_countRepeated_5 (by decide) ?_
          refine lv_icmp_ge (tgt := 27) hx hb dX0_countRepeated_7 (by decide) (fun c_x => absurd c_x (by decide)) (fun _ => ?_)
          refine lv_aload_n hx hb dX0_countRepeated_10 rfl (lv_at hl 2 rfl) ?_
          refine lv_iload_n hx hb dX0_countRepeated_11 rfl (lv_at hl 0 rfl) ?_
          refine rcVi (as := [.int (5 : Int32)]) (rest := []) (cl := RX0) C (c_X0_isRepeated l G a S (5 : Int32) (vp_in_lit 5)) F_X0_isRepeated rfl bw278 bw280 bw15 hE hP (rv2 hE.K hP (q0 := 0) rfl) hl.1 dX0_countRepeated_12 ⟨Nat.le_of_ble_eq_true rfl, Nat.le_of_ble_eq_true rfl⟩ rfl (Nat.le_of_ble_eq_true rfl) ⟨Nat.zero_le _, Nat.zero_le _⟩ ?_
          refine lv_if_eq (tgt := 21) hx hb dX0_countRepeated_15 (by decide) (fun c_5 => ?_) (fun c_5 => ?_)
          · refine lv_iinc (v := (6 : Int32)) (lv' := [(2, .int (6 : Int32)), (1, .int (0 : Int32)), (0, .ref (a 0))]) hx hb dX0_countRepeated_21 hl (k := 0) rfl (by first | rfl | decide) (Nat.le_of_ble_eq_true rfl) rfl (fun ls hl => ?_)
            refine lv_goto (tgt := 4) hx hb dX0_countRepeated_24 (by decide) ?_
            refine lv_iload_n hx hb dX0_countRepeated_4 rfl (lv_at hl 0 rfl) ?_
            refine lv_bipush (v := (6 : Int32)) hx hb dX0_countRepeated_5 (by decide) ?_
            refine lv_icmp_ge (tgt := 27) hx hb dX0_countRepeated_7 (by decide) (fun _ => ?_) (fun c_x => absurd (show (6 : Int32) ≤ (6 : Int32) from by decide) c_x)
            refine lv_iload_n hx hb dX0_countRepeated_27 rfl (lv_at hl 1 rfl) ?_
            exact re_i hx hb hr hk dX0_countRepeated_28 (ei (Eq.trans (if_pos c_1) (Eq.trans (if_pos c_2) (Eq.trans (if_pos c_3) (Eq.trans (if_pos c_4) (if_pos c_5))))))
          · refine lv_iinc (v := (1 : Int32)) (lv' := [(1, .int (1 : Int32)), (2, .int (5 : Int32)), (0, .ref (a 0))]) hx hb dX0_countRepeated_18 hl (k := 1) rfl (by first | rfl | decide) (Nat.le_of_ble_eq_true rfl) rfl (fun ls hl => ?_)
            refine lv_iinc (v := (6 : Int32)) (lv' := [(2, .int (6 : Int32)), (1, .int (1 : Int32)), (0, .ref (a 0))]) hx hb dX0_countRepeated_21 hl (k := 1) rfl (by first | rfl | decide) (Nat.le_of_ble_eq_true rfl) rfl (fun ls hl => ?_)
            refine lv_goto (tgt := 4) hx hb dX0_countRepeated_24 (by decide) ?_
            refine lv_iload_n hx hb dX0_countRepeated_4 rfl (lv_at hl 0 rfl) ?_
            refine lv_bipush (v := (6 : Int32)) hx hb dX0_countRepeated_5 (by decide) ?_
            refine lv_icmp_ge (tgt := 27) hx hb dX0_countRepeated_7 (by decide) (fun _ => ?_) (fun c_x => absurd (show (6 : Int32) ≤ (6 : Int32) from by decide) c_x)
            refine lv_iload_n hx hb dX0_countRepeated_27 rfl (lv_at hl 1 rfl) ?_
            exact re_i hx hb hr hk dX0_countRepeated_28 (ei (Eq.trans (if_pos c_1) (Eq.trans (if_pos c_2) (Eq.trans (if_pos c_3) (Eq.trans (if_pos c_4) (if_neg c_5))))))
        · refine lv_iinc (v := (1 : Int32)) (lv' := [(1, .int (1 : Int32)), (2, .int (4 : Int32)), (0, .ref (a 0))]) hx hb dX0_countRepeated_18 hl (k := 1) rfl (by first | rfl | decide) (Nat.le_of_ble_eq_true rfl) rfl (fun ls hl => ?_)
          refine lv_iinc (v := (5 : Int32)) (lv' := [(2, .int (5 : Int32)), (1, .int (1 : Int32)), (0, .ref (a 0))]) hx hb dX0_countRepeated_21 hl (k := 1) rfl (by first | rfl | decide) (Nat.le_of_ble_eq_true rfl) rfl (fun ls hl => ?_)
          refine lv_goto (tgt := 4) hx hb dX0_countRepeated_24 (by decide) ?_
          refine lv_iload_n hx hb dX0_countRepeated_4 rfl (lv_at hl 0 rfl) ?_
          refine lv_bipush (v := (6 : Int32)) hx hb dX0_countRepeated_5 (by decide) ?_
          refine lv_icmp_ge (tgt := 27) hx hb dX0_countRepeated_7 (by decide) (fun c_x => absurd c_x (by decide)) (fun _ => ?_)
          refine lv_aload_n hx hb dX0_countRepeated_10 rfl (lv_at hl 2 rfl) ?_
          refine lv_iload_n hx hb dX0_countRepeated_11 rfl (lv_at hl 0 rfl) ?_
          refine rcVi (as := [.int (5 : Int32)]) (rest := []) (cl := RX0) C (c_X0_isRepeated l G a S (5 : Int32) (vp_in_lit 5)) F_X0_isRepeated rfl bw278 bw280 bw15 hE hP (rv2 hE.K hP (q0 := 0) rfl) hl.1 dX0_countRepeated_12 ⟨Nat.le_of_ble_eq_true rfl, Nat.le_of_ble_eq_true rfl⟩ rfl (Nat.le_of_ble_eq_true rfl) ⟨Nat.zero_le _, Nat.zero_le _⟩ ?_
          refine lv_if_eq (tgt := 21) hx hb dX0_countRepeated_15 (by decide) (fun c_6 => ?_) (fun c_6 => ?_)
          · refine lv_iinc (v := (6 : Int32)) (lv' := [(2, .int (6 : Int32)), (1, .int (1 : Int32)), (0, .ref (a 0))]) hx hb dX0_countRepeated_21 hl (k := 0) rfl (by first | rfl | decide) (Nat.le_of_ble_eq_true rfl) rfl (fun ls hl => ?_)
            refine lv_goto (tgt := 4) hx hb dX0_countRepeated_24 (by decide) ?_
            refine lv_iload_n hx hb dX0_countRepeated_4 rfl (lv_at hl 0 rfl) ?_
            refine lv_bipush (v := (6 : Int32)) hx hb dX0_countRepeated_5 (by decide) ?_
            refine lv_icmp_ge (tgt := 27) hx hb dX0_countRepeated_7 (by decide) (fun _ => ?_) (fun c_x => absurd (show (6 : Int32) ≤ (6 : Int32) from by decide) c_x)
            refine lv_iload_n hx hb dX0_countRepeated_27 rfl (lv_at hl 1 rfl) ?_
            exact re_i hx hb hr hk dX0_countRepeated_28 (ei (Eq.trans (if_pos c_1) (Eq.trans (if_pos c_2) (Eq.trans (if_pos c_3) (Eq.trans (if_neg c_4) (if_pos c_6))))))
          · refine lv_iinc (v := (2 : Int32)) (lv' := [(1, .int (2 : Int32)), (2, .int (5 : Int32)), (0, .ref (a 0))]) hx hb dX0_countRepeated_18 hl (k := 1) rfl (by first | rfl | decide) (Nat.le_of_ble_eq_true rfl) rfl (fun ls hl => ?_)
            refine lv_iinc (v := (6 : Int32)) (lv' := [(2, .int (6 : Int32)), (1, .int (2 : Int32)), (0, .ref (a 0))]) hx hb dX0_countRepeated_21 hl (k := 1) rfl (by first | rfl | decide) (Nat.le_of_ble_eq_true rfl) rfl (fun ls hl => ?_)
            refine lv_goto (tgt := 4) hx hb dX0_countRepeated_24 (by decide) ?_
            refine lv_iload_n hx hb dX0_countRepeated_4 rfl (lv_at hl 0 rfl) ?_
            refine lv_bipush (v := (6 : Int32)) hx hb dX0_countRepeated_5 (by decide) ?_
            refine lv_icmp_ge (tgt := 27) hx hb dX0_countRepeated_7 (by decide) (fun _ => ?_) (fun c_x => absurd (show (6 : Int32) ≤ (6 : Int32) from by decide) c_x)
            refine lv_iload_n hx hb dX0_countRepeated_27 rfl (lv_at hl 1 rfl) ?_
            exact re_i hx hb hr hk dX0_countRepeated_28 (ei (Eq.trans (if_pos c_1) (Eq.trans (if_pos c_2) (Eq.trans (if_pos c_3) (Eq.trans (if_neg c_4) (if_neg c_6))))))
      · refine lv_iinc (v := (1 : Int32)) (lv' := [(1, .int (1 : Int32)), (2, .int (3 : Int32)), (0, .ref (a 0))]) hx hb dX0_countRepeated_18 hl (k := 1) rfl (by first | rfl | decide) (Nat.le_of_ble_eq_true rfl) rfl (fun ls hl => ?_)
        refine lv_iinc (v := (4 : Int32)) (lv' := [(2, .int (4 : Int32)), (1, .int (1 : Int32)), (0, .ref (a 0))]) hx hb dX0_countRepeated_21 hl (k := 1) rfl (by first | rfl | decide) (Nat.le_of_ble_eq_true rfl) rfl (fun ls hl => ?_)
        refine lv_goto (tgt := 4) hx hb dX0_countRepeated_24 (by decide) ?_
        refine lv_iload_n hx hb dX0_countRepeated_4 rfl (lv_at hl 0 rfl) ?_
        refine lv_bipush (v := (6 : Int32)) hx hb dX0_countRepeated_5 (by decide) ?_
        refine lv_icmp_ge (tgt := 27) hx hb dX0_countRepeated_7 (by decide) (fun c_x => absurd c_x (by decide)) (fun _ => ?_)
        refine lv_aload_n hx hb dX0_countRepeated_10 rfl (lv_at hl 2 rfl) ?_
        refine lv_iload_n hx hb dX0_countRepeated_11 rfl (lv_at hl 0 rfl) ?_
        refine rcVi (as := [.int (4 : Int32)]) (rest := []) (cl := RX0) C (c_X0_isRepeated l G a S (4 : Int32) (vp_in_lit 4)) F_X0_isRepeated rfl bw278 bw280 bw15 hE hP (rv2 hE.K hP (q0 := 0) rfl) hl.1 dX0_countRepeated_12 ⟨Nat.le_of_ble_eq_true rfl, Nat.le_of_ble_eq_true rfl⟩ rfl (Nat.le_of_ble_eq_true rfl) ⟨Nat.zero_le _, Nat.zero_le _⟩ ?_
        refine lv_if_eq (tgt := 21) hx hb dX0_countRepeated_15 (by decide) (fun c_7 => ?_) (fun c_7 => ?_)
        · refine lv_iinc (v := (5 : Int32)) (lv' := [(2, .int (5 : Int32)), (1, .int (1 : Int32)), (0, .ref (a 0))]) hx hb dX0_countRepeated_21 hl (k := 0) rfl (by first | rfl | decide) (Nat.le_of_ble_eq_true rfl) rfl (fun ls hl => ?_)
          refine lv_goto (tgt := 4) hx hb dX0_countRepeated_24 (by decide) ?_
          refine lv_iload_n hx hb dX0_countRepeated_4 rfl (lv_at hl 0 rfl) ?_
          refine lv_bipush (v := (6 : Int32)) hx hb dX0_countRepeated_5 (by decide) ?_
          refine lv_icmp_ge (tgt := 27) hx hb dX0_countRepeated_7 (by decide) (fun c_x => absurd c_x (by decide)) (fun _ => ?_)
          refine lv_aload_n hx hb dX0_countRepeated_10 rfl (lv_at hl 2 rfl) ?_
          refine lv_iload_n hx hb dX0_countRepeated_11 rfl (lv_at hl 0 rfl) ?_
          refine rcVi (as := [.int (5 : Int32)]) (rest := []) (cl := RX0) C (c_X0_isRepeated l G a S (5 : Int32) (vp_in_lit 5)) F_X0_isRepeated rfl bw278 bw280 bw15 hE hP (rv2 hE.K hP (q0 := 0) rfl) hl.1 dX0_countRepeated_12 ⟨Nat.le_of_ble_eq_true rfl, Nat.le_of_ble_eq_true rfl⟩ rfl (Nat.le_of_ble_eq_true rfl) ⟨Nat.zero_le _, Nat.zero_le _⟩ ?_
          refine lv_if_eq (tgt := 21) hx hb dX0_countRepeated_15 (by decide) (fun c_8 => ?_) (fun c_8 => ?_)
          · refine lv_iinc (v := (6 : Int32)) (lv' := [(2, .int (6 : Int32)), (1, .int (1 : Int32)), (0, .ref (a 0))]) hx hb dX0_countRepeated_21 hl (k := 0) rfl (by first | rfl | decide) (Nat.le_of_ble_eq_true rfl) rfl (fun ls hl => ?_)
            refine lv_goto (tgt := 4) hx hb dX0_countRepeated_24 (by decide) ?_
            refine lv_iload_n hx hb dX0_countRepeated_4 rfl (lv_at hl 0 rfl) ?_
            refine lv_bipush (v := (6 : Int32)) hx hb dX0_countRepeated_5 (by decide) ?_
            refine lv_icmp_ge (tgt := 27) hx hb dX0_countRepeated_7 (by decide) (fun _ => ?_) (fun c_x => absurd (show (6 : Int32) ≤ (6 : Int32) from by decide) c_x)
            refine lv_iload_n hx hb dX0_countRepeated_27 rfl (lv_at hl 1 rfl) ?_
            exact re_i hx hb hr hk dX0_countRepeated_28 (ei (Eq.trans (if_pos c_1) (Eq.trans (if_pos c_2) (Eq.trans (if_neg c_3) (Eq.trans (if_pos c_7) (if_pos c_8))))))
          · refine lv_iinc (v := (2 : Int32)) (lv' := [(1, .int (2 : Int32)), (2, .int (5 : Int32)), (0, .ref (a 0))]) hx hb dX0_countRepeated_18 hl (k := 1) rfl (by first | rfl | decide) (Nat.le_of_ble_eq_true rfl) rfl (fun ls hl => ?_)
            refine lv_iinc (v := (6 : Int32)) (lv' := [(2, .int (6 : Int32)), (1, .int (2 : Int32)), (0, .ref (a 0))]) hx hb dX0_countRepeated_21 hl (k := 1) rfl (by first | rfl | decide) (Nat.le_of_ble_eq_true rfl) rfl (fun ls hl => ?_)
            refine lv_goto (tgt := 4) hx hb dX0_countRepeated_24 (by decide) ?_
            refine lv_iload_n hx hb dX0_countRepeated_4 rfl (lv_at hl 0 rfl) ?_
            refine lv_bipush (v := (6 : Int32)) hx hb dX0_countRepeated_5 (by decide) ?_
            refine lv_icmp_ge (tgt := 27) hx hb dX0_countRepeated_7 (by decide) (fun _ => ?_) (fun c_x => absurd (show (6 : Int32) ≤ (6 : Int32) from by decide) c_x)
            refine lv_iload_n hx hb dX0_countRepeated_27 rfl (lv_at hl 1 rfl) ?_
            exact re_i hx hb hr hk dX0_countRepeated_28 (ei (Eq.trans (if_pos c_1) (Eq.trans (if_pos c_2) (Eq.trans (if_neg c_3) (Eq.trans (if_pos c_7) (if_neg c_8))))))
        · refine lv_iinc (v := (2 : Int32)) (lv' := [(1, .int (2 : Int32)), (2, .int (4 : Int32)), (0, .ref (a 0))]) hx hb dX0_countRepeated_18 hl (k := 1) rfl (by first | rfl | decide) (Nat.le_of_ble_eq_true rfl) rfl (fun ls hl => ?_)
          refine lv_iinc (v := (5 : Int32)) (lv' := [(2, .int (5 : Int32)), (1, .int (2 : Int32)), (0, .ref (a 0))]) hx hb dX0_countRepeated_21 hl (k := 1) rfl (by first | rfl | decide) (Nat.le_of_ble_eq_true rfl) rfl (fun ls hl => ?_)
          refine lv_goto (tgt := 4) hx hb dX0_countRepeated_24 (by decide) ?_
          refine lv_iload_n hx hb dX0_countRepeated_4 rfl (lv_at hl 0 rfl) ?_
          refine lv_bipush (v := (6 : Int32)) hx hb dX0_countRepeated_5 (by decide) ?_
          refine lv_icmp_ge (tgt := 27) hx hb dX0_countRepeated_7 (by decide) (fun c_x => absurd c_x (by decide)) (fun _ => ?_)
          refine lv_aload_n hx hb dX0_countRepeated_10 rfl (lv_at hl 2 rfl) ?_
          refine lv_iload_n hx hb dX0_countRepeated_11 rfl (lv_at hl 0 rfl) ?_
          refine rcVi (as := [.int (5 : Int32)]) (rest := []) (cl := RX0) C (c_X0_isRepeated l G a S (5 : Int32) (vp_in_lit 5)) F_X0_isRepeated rfl bw278 bw280 bw15 hE hP (rv2 hE.K hP (q0 := 0) rfl) hl.1 dX0_countRepeated_12 ⟨Nat.le_of_ble_eq_true rfl, Nat.le_of_ble_eq_true rfl⟩ rfl (Nat.le_of_ble_eq_true rfl) ⟨Nat.zero_le _, Nat.zero_le _⟩ ?_
          refine lv_if_eq (tgt := 21) hx hb dX0_countRepeated_15 (by decide) (fun c_9 => ?_) (fun c_9 => ?_)
          · refine lv_iinc (v := (6 : Int32)) (lv' := [(2, .int (6 : Int32)), (1, .int (2 : Int32)), (0, .ref (a 0))]) hx hb dX0_countRepeated_21 hl (k := 0) rfl (by first | rfl | decide) (Nat.le_of_ble_eq_true rfl) rfl (fun ls hl => ?_)
            refine lv_goto (tgt := 4) hx hb dX0_countRepeated_24 (by decide) ?_
            refine lv_iload_n hx hb dX0_countRepeated_4 rfl (lv_at hl 0 rfl) ?_
            refine lv_bipush (v := (6 : Int32)) hx hb dX0_countRepeated_5 (by decide) ?_
            refine lv_icmp_ge (tgt := 27) hx hb dX0_countRepeated_7 (by decide) (fun _ => ?_) (fun c_x => absurd (show (6 : Int32) ≤ (6 : Int32) from by decide) c_x)
            refine lv_iload_n hx hb dX0_countRepeated_27 rfl (lv_at hl 1 rfl) ?_
            exact re_i hx hb hr hk dX0_countRepeated_28 (ei (Eq.trans (if_pos c_1) (Eq.trans (if_pos c_2) (Eq.trans (if_neg c_3) (Eq.trans (if_neg c_7) (if_pos c_9))))))
          · refine lv_iinc (v := (3 : Int32)) (lv' := [(1, .int (3 : Int32)), (2, .int (5 : Int32)), (0, .ref (a 0))]) hx hb dX0_countRepeated_18 hl (k := 1) rfl (by first | rfl | decide) (Nat.le_of_ble_eq_true rfl) rfl (fun ls hl => ?_)
            refine lv_iinc (v := (6 : Int32)) (lv' := [(2, .int (6 : Int32)), (1, .int (3 : Int32)), (0, .ref (a 0))]) hx hb dX0_countRepeated_21 hl (k := 1) rfl (by first | rfl | decide) (Nat.le_of_ble_eq_true rfl) rfl (fun ls hl => ?_)
            refine lv_goto (tgt := 4) hx hb dX0_countRepeated_24 (by decide) ?_
            refine lv_iload_n hx hb dX0_countRepeated_4 rfl (lv_at hl 0 rfl) ?_
            refine lv_bipush (v := (6 : Int32)) hx hb dX0_countRepeated_5 (by decide) ?_
            refine lv_icmp_ge (tgt := 27) hx hb dX0_countRepeated_7 (by decide) (fun _ => ?_) (fun c_x => absurd (show (6 : Int32) ≤ (6 : Int32) from by decide) c_x)
            refine lv_iload_n hx hb dX0_countRepeated_27 rfl (lv_at hl 1 rfl) ?_
            exact re_i hx hb hr hk dX0_countRepeated_28 (ei (Eq.trans (if_pos c_1) (Eq.trans (if_pos c_2) (Eq.trans (if_neg c_3) (Eq.trans (if_neg c_7) (if_neg c_9))))))
    · refine lv_iinc (v := (1 : Int32)) (lv' := [(1, .int (1 : Int32)), (2, .int (2 : Int32)), (0, .ref (a 0))]) hx hb dX0_countRepeated_18 hl (k := 1) rfl (by first | rfl | decide) (Nat.le_of_ble_eq_true rfl) rfl (fun ls hl => ?_)
      refine lv_iinc (v := (3 : Int32)) (lv' := [(2, .int (3 : Int32)), (1, .int (1 : Int32)), (0, .ref (a 0))]) hx hb dX0_countRepeated_21 hl (k := 1) rfl (by first | rfl | decide) (Nat.le_of_ble_eq_true rfl) rfl (fun ls hl => ?_)
      refine lv_goto (tgt := 4) hx hb dX0_countRepeated_24 (by decide) ?_
      refine lv_iload_n hx hb dX0_countRepeated_4 rfl (lv_at hl 0 rfl) ?_
      refine lv_bipush (v := (6 : Int32)) hx hb dX0_countRepeated_5 (by decide) ?_
      refine lv_icmp_ge (tgt := 27) hx hb dX0_countRepeated_7 (by decide) (fun c_x => absurd c_x (by decide)) (fun _ => ?_)
      refine lv_aload_n hx hb dX0_countRepeated_10 rfl (lv_at hl 2 rfl) ?_
      refine lv_iload_n hx hb dX0_countRepeated_11 rfl (lv_at hl 0 rfl) ?_
      refine rcVi (as := [.int (3 : Int32)]) (rest := []) (cl := RX0) C (c_X0_isRepeated l G a S (3 : Int32) (vp_in_lit 3)) F_X0_isRepeated rfl bw278 bw280 bw15 hE hP (rv2 hE.K hP (q0 := 0) rfl) hl.1 dX0_countRepeated_12 ⟨Nat.le_of_ble_eq_true rfl, Nat.le_of_ble_eq_true rfl⟩ rfl (Nat.le_of_ble_eq_true rfl) ⟨Nat.zero_le _, Nat.zero_le _⟩ ?_
      refine lv_if_eq (tgt := 21) hx hb dX0_countRepeated_15 (by decide) (fun c_10 => ?_) (fun c_10 => ?_)
      · refine lv_iinc (v := (4 : Int32)) (lv' := [(2, .int (4 : Int32)), (1, .int (1 : Int32)), (0, .ref (a 0))]) hx hb dX0_countRepeated_21 hl (k := 0) rfl (by first | rfl | decide) (Nat.le_of_ble_eq_true rfl) rfl (fun ls hl => ?_)
        refine lv_goto (tgt := 4) hx hb dX0_countRepeated_24 (by decide) ?_
        refine lv_iload_n hx hb dX0_countRepeated_4 rfl (lv_at hl 0 rfl) ?_
        refine lv_bipush (v := (6 : Int32)) hx hb dX0_countRepeated_5 (by decide) ?_
        refine lv_icmp_ge (tgt := 27) hx hb dX0_countRepeated_7 (by decide) (fun c_x => absurd c_x (by decide)) (fun _ => ?_)
        refine lv_aload_n hx hb dX0_countRepeated_10 rfl (lv_at hl 2 rfl) ?_
        refine lv_iload_n hx hb dX0_countRepeated_11 rfl (lv_at hl 0 rfl) ?_
        refine rcVi (as := [.int (4 : Int32)]) (rest := []) (cl := RX0) C (c_X0_isRepeated l G a S (4 : Int32) (vp_in_lit 4)) F_X0_isRepeated rfl bw278 bw280 bw15 hE hP (rv2 hE.K hP (q0 := 0) rfl) hl.1 dX0_countRepeated_12 ⟨Nat.le_of_ble_eq_true rfl, Nat.le_of_ble_eq_true rfl⟩ rfl (Nat.le_of_ble_eq_true rfl) ⟨Nat.zero_le _, Nat.zero_le _⟩ ?_
        refine lv_if_eq (tgt := 21) hx hb dX0_countRepeated_15 (by decide) (fun c_11 => ?_) (fun c_11 => ?_)
        · refine lv_iinc (v := (5 : Int32)) (lv' := [(2, .int (5 : Int32)), (1, .int (1 : Int32)), (0, .ref (a 0))]) hx hb dX0_countRepeated_21 hl (k := 0) rfl (by first | rfl | decide) (Nat.le_of_ble_eq_true rfl) rfl (fun ls hl => ?_)
          refine lv_goto (tgt := 4) hx hb dX0_countRepeated_24 (by decide) ?_
          refine lv_iload_n hx hb dX0_countRepeated_4 rfl (lv_at hl 0 rfl) ?_
          refine lv_bipush (v := (6 : Int32)) hx hb dX0_countRepeated_5 (by decide) ?_
          refine lv_icmp_ge (tgt := 27) hx hb dX0_countRepeated_7 (by decide) (fun c_x => absurd c_x (by decide)) (fun _ => ?_)
          refine lv_aload_n hx hb dX0_countRepeated_10 rfl (lv_at hl 2 rfl) ?_
          refine lv_iload_n hx hb dX0_countRepeated_11 rfl (lv_at hl 0 rfl) ?_
          refine rcVi (as := [.int (5 : Int32)]) (rest := []) (cl := RX0) C (c_X0_isRepeated l G a S (5 : Int32) (vp_in_lit 5)) F_X0_isRepeated rfl bw278 bw280 bw15 hE hP (rv2 hE.K hP (q0 := 0) rfl) hl.1 dX0_countRepeated_12 ⟨Nat.le_of_ble_eq_true rfl, Nat.le_of_ble_eq_true rfl⟩ rfl (Nat.le_of_ble_eq_true rfl) ⟨Nat.zero_le _, Nat.zero_le _⟩ ?_
          refine lv_if_eq (tgt := 21) hx hb dX0_countRepeated_15 (by decide) (fun c_12 => ?_) (fun c_12 => ?_)
          · refine lv_iinc (v := (6 : Int32)) (lv' := [(2, .int (6 : Int32)), (1, .int (1 : Int32)), (0, .ref (a 0))]) hx hb dX0_countRepeated_21 hl (k := 0) rfl (by first | rfl | decide) (Nat.le_of_ble_eq_true rfl) rfl (fun ls hl => ?_)
            refine lv_goto (tgt := 4) hx hb dX0_countRepeated_24 (by decide) ?_
            refine lv_iload_n hx hb dX0_countRepeated_4 rfl (lv_at hl 0 rfl) ?_
            refine lv_bipush (v := (6 : Int32)) hx hb dX0_countRepeated_5 (by decide) ?_
            refine lv_icmp_ge (tgt := 27) hx hb dX0_countRepeated_7 (by decide) (fun _ => ?_) (fun c_x => absurd (show (6 : Int32) ≤ (6 : Int32) from by decide) c_x)
            refine lv_iload_n hx hb dX0_countRepeated_27 rfl (lv_at hl 1 rfl) ?_
            exact re_i hx hb hr hk dX0_countRepeated_28 (ei (Eq.trans (if_pos c_1) (Eq.trans (if_neg c_2) (Eq.trans (if_pos c_10) (Eq.trans (if_pos c_11) (if_pos c_12))))))
          · refine lv_iinc (v := (2 : Int32)) (lv' := [(1, .int (2 : Int32)), (2, .int (5 : Int32)), (0, .ref (a 0))]) hx hb dX0_countRepeated_18 hl (k := 1) rfl (by first | rfl | decide) (Nat.le_of_ble_eq_true rfl) rfl (fun ls hl => ?_)
            refine lv_iinc (v := (6 : Int32)) (lv' := [(2, .int (6 : Int32)), (1, .int (2 : Int32)), (0, .ref (a 0))]) hx hb dX0_countRepeated_21 hl (k := 1) rfl (by first | rfl | decide) (Nat.le_of_ble_eq_true rfl) rfl (fun ls hl => ?_)
            refine lv_goto (tgt := 4) hx hb dX0_countRepeated_24 (by decide) ?_
            refine lv_iload_n hx hb dX0_countRepeated_4 rfl (lv_at hl 0 rfl) ?_
            refine lv_bipush (v := (6 : Int32)) hx hb dX0_countRepeated_5 (by decide) ?_
            refine lv_icmp_ge (tgt := 27) hx hb dX0_countRepeated_7 (by decide) (fun _ => ?_) (fun c_x => absurd (show (6 : Int32) ≤ (6 : Int32) from by decide) c_x)
            refine lv_iload_n hx hb dX0_countRepeated_27 rfl (lv_at hl 1 rfl) ?_
            exact re_i hx hb hr hk dX0_countRepeated_28 (ei (Eq.trans (if_pos c_1) (Eq.trans (if_neg c_2) (Eq.trans (if_pos c_10) (Eq.trans (if_pos c_11) (if_neg c_12))))))
        · refine lv_iinc (v := (2 : Int32)) (lv' := [(1, .int (2 : Int32)), (2, .int (4 : Int32)), (0, .ref (a 0))]) hx hb dX0_countRepeated_18 hl (k := 1) rfl (by first | rfl | decide) (Nat.le_of_ble_eq_true rfl) rfl (fun ls hl => ?_)
          refine lv_iinc (v := (5 : Int32)) (lv' := [(2, .int (5 : Int32)), (1, .int (2 : Int32)), (0, .ref (a 0))]) hx hb dX0_countRepeated_21 hl (k := 1) rfl (by first | rfl | decide) (Nat.le_of_ble_eq_true rfl) rfl (fun ls hl => ?_)
          refine lv_goto (tgt := 4) hx hb dX0_countRepeated_24 (by decide) ?_
          refine lv_iload_n hx hb dX0_countRepeated_4 rfl (lv_at hl 0 rfl) ?_
          refine lv_bipush (v := (6 : Int32)) hx hb dX0_countRepeated_5 (by decide) ?_
          refine lv_icmp_ge (tgt := 27) hx hb dX0_countRepeated_7 (by decide) (fun c_x => absurd c_x (by decide)) (fun _ => ?_)
          refine lv_aload_n hx hb dX0_countRepeated_10 rfl (lv_at hl 2 rfl) ?_
          refine lv_iload_n hx hb dX0_countRepeated_11 rfl (lv_at hl 0 rfl) ?_
          refine rcVi (as := [.int (5 : Int32)]) (rest := []) (cl := RX0) C (c_X0_isRepeated l G a S (5 : Int32) (vp_in_lit 5)) F_X0_isRepeated rfl bw278 bw280 bw15 hE hP (rv2 hE.K hP (q0 := 0) rfl) hl.1 dX0_countRepeated_12 ⟨Nat.le_of_ble_eq_true rfl, Nat.le_of_ble_eq_true rfl⟩ rfl (Nat.le_of_ble_eq_true rfl) ⟨Nat.zero_le _, Nat.zero_le _⟩ ?_
          refine lv_if_eq (tgt := 21) hx hb dX0_countRepeated_15 (by decide) (fun c_13 => ?_) (fun c_13 => ?_)
          · refine lv_iinc (v := (6 : Int32)) (lv' := [(2, .int (6 : Int32)), (1, .int (2 : Int32)), (0, .ref (a 0))]) hx hb dX0_countRepeated_21 hl (k := 0) rfl (by first | rfl | decide) (Nat.le_of_ble_eq_true rfl) rfl (fun ls hl => ?_)
            refine lv_goto (tgt := 4) hx hb dX0_countRepeated_24 (by decide) ?_
            refine lv_iload_n hx hb dX0_countRepeated_4 rfl (lv_at hl 0 rfl) ?_
            refine lv_bipush (v := (6 : Int32)) hx hb dX0_countRepeated_5 (by decide) ?_
            refine lv_icmp_ge (tgt := 27) hx hb dX0_countRepeated_7 (by decide) (fun _ => ?_) (fun c_x => absurd (show (6 : Int32) ≤ (6 : Int32) from by decide) c_x)
            refine lv_iload_n hx hb dX0_countRepeated_27 rfl (lv_at hl 1 rfl) ?_
            exact re_i hx hb hr hk dX0_countRepeated_28 (ei (Eq.trans (if_pos c_1) (Eq.trans (if_neg c_2) (Eq.trans (if_pos c_10) (Eq.trans (if_neg c_11) (if_pos c_13))))))
          · refine lv_iinc (v := (3 : Int32)) (lv' := [(1, .int (3 : Int32)), (2, .int (5 : Int32)), (0, .ref (a 0))]) hx hb dX0_countRepeated_18 hl (k := 1) rfl (by first | rfl | decide) (Nat.le_of_ble_eq_true rfl) rfl (fun ls hl => ?_)
            refine lv_iinc (v := (6 : Int32)) (lv' := [(2, .int (6 : Int32)), (1, .int (3 : Int32)), (0, .ref (a 0))]) hx hb dX0_countRepeated_21 hl (k := 1) rfl (by first | rfl | decide) (Nat.le_of_ble_eq_true rfl) rfl (fun ls hl => ?_)
            refine lv_goto (tgt := 4) hx hb dX0_countRepeated_24 (by decide) ?_
            refine lv_iload_n hx hb dX0_countRepeated_4 rfl (lv_at hl 0 rfl) ?_
            refine lv_bipush (v := (6 : Int32)) hx hb dX0_countRepeated_5 (by decide) ?_
            refine lv_icmp_ge (tgt := 27) hx hb dX0_countRepeated_7 (by decide) (fun _ => ?_) (fun c_x => absurd (show (6 : Int32) ≤ (6 : Int32) from by decide) c_x)
            refine lv_iload_n hx hb dX0_countRepeated_27 rfl (lv_at hl 1 rfl) ?_
            exact re_i hx hb hr hk dX0_countRepeated_28 (ei (Eq.trans (if_pos c_1) (Eq.trans (if_neg c_2) (Eq.trans (if_pos c_10) (Eq.trans (if_neg c_11) (if_neg c_13))))))
      · refine lv_iinc (v := (2 : Int32)) (lv' := [(1, .int (2 : Int32)), (2, .int (3 : Int32)), (0, .ref (a 0))]) hx hb dX0_countRepeated_18 hl (k := 1) rfl (by first | rfl | decide) (Nat.le_of_ble_eq_true rfl) rfl (fun ls hl => ?_)
        refine lv_iinc (v := (4 : Int32)) (lv' := [(2, .int (4 : Int32)), (1, .int (2 : Int32)), (0, .ref (a 0))]) hx hb dX0_countRepeated_21 hl (k := 1) rfl (by first | rfl | decide) (Nat.le_of_ble_eq_true rfl) rfl (fun ls hl => ?_)
        refine lv_goto (tgt := 4) hx hb dX0_countRepeated_24 (by decide) ?_
        refine lv_iload_n hx hb dX0_countRepeated_4 rfl (lv_at hl 0 rfl) ?_
        refine lv_bipush (v := (6 : Int32)) hx hb dX0_countRepeated_5 (by decide) ?_
        refine lv_icmp_ge (tgt := 27) hx hb dX0_countRepeated_7 (by decide) (fun c_x => absurd c_x (by decide)) (fun _ => ?_)
        refine lv_aload_n hx hb dX0_countRepeated_10 rfl (lv_at hl 2 rfl) ?_
        refine lv_iload_n hx hb dX0_countRepeated_11 rfl (lv_at hl 0 rfl) ?_
        refine rcVi (as := [.int (4 : Int32)]) (rest := []) (cl := RX0) C (c_X0_isRepeated l G a S (4 : Int32) (vp_in_lit 4)) F_X0_isRepeated rfl bw278 bw280 bw15 hE hP (rv2 hE.K hP (q0 := 0) rfl) hl.1 dX0_countRepeated_12 ⟨Nat.le_of_ble_eq_true rfl, Nat.le_of_ble_eq_true rfl⟩ rfl (Nat.le_of_ble_eq_true rfl) ⟨Nat.zero_le _, Nat.zero_le _⟩ ?_
        refine lv_if_eq (tgt := 21) hx hb dX0_countRepeated_15 (by decide) (fun c_14 => ?_) (fun c_14 => ?_)
        · refine lv_iinc (v := (5 : Int32)) (lv' := [(2, .int (5 : Int32)), (1, .int (2 : Int32)), (0, .ref (a 0))]) hx hb dX0_countRepeated_21 hl (k := 0) rfl (by first | rfl | decide) (Nat.le_of_ble_eq_true rfl) rfl (fun ls hl => ?_)
          refine lv_goto (tgt := 4) hx hb dX0_countRepeated_24 (by decide) ?_
          refine lv_iload_n hx hb dX0_countRepeated_4 rfl (lv_at hl 0 rfl) ?_
          refine lv_bipush (v := (6 : Int32)) hx hb dX0_countRepeated_5 (by decide) ?_
          refine lv_icmp_ge (tgt := 27) hx hb dX0_countRepeated_7 (by decide) (fun c_x => absurd c_x (by decide)) (fun _ => ?_)
          refine lv_aload_n hx hb dX0_countRepeated_10 rfl (lv_at hl 2 rfl) ?_
          refine lv_iload_n hx hb dX0_countRepeated_11 rfl (lv_at hl 0 rfl) ?_
          refine rcVi (as := [.int (5 : Int32)]) (rest := []) (cl := RX0) C (c_X0_isRepeated l G a S (5 : Int32) (vp_in_lit 5)) F_X0_isRepeated rfl bw278 bw280 bw15 hE hP (rv2 hE.K hP (q0 := 0) rfl) hl.1 dX0_countRepeated_12 ⟨Nat.le_of_ble_eq_true rfl, Nat.le_of_ble_eq_true rfl⟩ rfl (Nat.le_of_ble_eq_true rfl) ⟨Nat.zero_le _, Nat.zero_le _⟩ ?_
          refine lv_if_eq (tgt := 21) hx hb dX0_countRepeated_15 (by decide) (fun c_15 => ?_) (fun c_15 => ?_)
          · refine lv_iinc (v := (6 : Int32)) (lv' := [(2, .int (6 : Int32)), (1, .int (2 : Int32)), (0, .ref (a 0))]) hx hb dX0_countRepeated_21 hl (k := 0) rfl (by first | rfl | decide) (Nat.le_of_ble_eq_true rfl) rfl (fun ls hl => ?_)
            refine lv_goto (tgt := 4) hx hb dX0_countRepeated_24 (by decide) ?_
            refine lv_iload_n hx hb dX0_countRepeated_4 rfl (lv_at hl 0 rfl) ?_
            refine lv_bipush (v := (6 : Int32)) hx hb dX0_countRepeated_5 (by decide) ?_
            refine lv_icmp_ge (tgt := 27) hx hb dX0_countRepeated_7 (by decide) (fun _ => ?_) (fun c_x => absurd (show (6 : Int32) ≤ (6 : Int32) from by decide) c_x)
            refine lv_iload_n hx hb dX0_countRepeated_27 rfl (lv_at hl 1 rfl) ?_
            exact re_i hx hb hr hk dX0_countRepeated_28 (ei (Eq.trans (if_pos c_1) (Eq.trans (if_neg c_2) (Eq.trans (if_neg c_10) (Eq.trans (if_pos c_14) (if_pos c_15))))))
          · refine lv_iinc (v := (3 : Int32)) (lv' := [(1, .int (3 : Int32)), (2, .int (5 : Int32)), (0, .ref (a 0))]) hx hb dX0_countRepeated_18 hl (k := 1) rfl (by first | rfl | decide) (Nat.le_of_ble_eq_true rfl) rfl (fun ls hl => ?_)
            refine lv_iinc (v := (6 : Int32)) (lv' := [(2, .int (6 : Int32)), (1, .int (3 : Int32)), (0, .ref (a 0))]) hx hb dX0_countRepeated_21 hl (k := 1) rfl (by first | rfl | decide) (Nat.le_of_ble_eq_true rfl) rfl (fun ls hl => ?_)
            refine lv_goto (tgt := 4) hx hb dX0_countRepeated_24 (by decide) ?_
            refine lv_iload_n hx hb dX0_countRepeated_4 rfl (lv_at hl 0 rfl) ?_
            refine lv_bipush (v := (6 : Int32)) hx hb dX0_countRepeated_5 (by decide) ?_
            refine lv_icmp_ge (tgt := 27) hx hb dX0_countRepeated_7 (by decide) (fun _ => ?_) (fun c_x => absurd (show (6 : Int32) ≤ (6 : Int32) from by decide) c_x)
            refine lv_iload_n hx hb dX0_countRepeated_27 rfl (lv_at hl 1 rfl) ?_
            exact re_i hx hb hr hk dX0_countRepeated_28 (ei (Eq.trans (if_pos c_1) (Eq.trans (if_neg c_2) (Eq.trans (if_neg c_10) (Eq.trans (if_pos c_14) (if_neg c_15))))))
        · refine lv_iinc (v := (3 : Int32)) (lv' := [(1, .int (3 : Int32)), (2, .int (4 : Int32)), (0, .ref (a 0))]) hx hb dX0_countRepeated_18 hl (k := 1) rfl (by first | rfl | decide) (Nat.le_of_ble_eq_true rfl) rfl (fun ls hl => ?_)
          refine lv_iinc (v := (5 : Int32)) (lv' := [(2, .int (5 : Int32)), (1, .int (3 : Int32)), (0, .ref (a 0))]) hx hb dX0_countRepeated_21 hl (k := 1) rfl (by first | rfl | decide) (Nat.le_of_ble_eq_true rfl) rfl (fun ls hl => ?_)
          refine lv_goto (tgt := 4) hx hb dX0_countRepeated_24 (by decide) ?_
          refine lv_iload_n hx hb dX0_countRepeated_4 rfl (lv_at hl 0 rfl) ?_
          refine lv_bipush (v := (6 : Int32)) hx hb dX0_countRepeated_5 (by decide) ?_
          refine lv_icmp_ge (tgt := 27) hx hb dX0_countRepeated_7 (by decide) (fun c_x => absurd c_x (by decide)) (fun _ => ?_)
          refine lv_aload_n hx hb dX0_countRepeated_10 rfl (lv_at hl 2 rfl) ?_
          refine lv_iload_n hx hb dX0_countRepeated_11 rfl (lv_at hl 0 rfl) ?_
          refine rcVi (as := [.int (5 : Int32)]) (rest := []) (cl := RX0) C (c_X0_isRepeated l G a S (5 : Int32) (vp_in_lit 5)) F_X0_isRepeated rfl bw278 bw280 bw15 hE hP (rv2 hE.K hP (q0 := 0) rfl) hl.1 dX0_countRepeated_12 ⟨Nat.le_of_ble_eq_true rfl, Nat.le_of_ble_eq_true rfl⟩ rfl (Nat.le_of_ble_eq_true rfl) ⟨Nat.zero_le _, Nat.zero_le _⟩ ?_
          refine lv_if_eq (tgt := 21) hx hb dX0_countRepeated_15 (by decide) (fun c_16 => ?_) (fun c_16 => ?_)
          · refine lv_iinc (v := (6 : Int32)) (lv' := [(2, .int (6 : Int32)), (1, .int (3 : Int32)), (0, .ref (a 0))]) hx hb dX0_countRepeated_21 hl (k := 0) rfl (by first | rfl | decide) (Nat.le_of_ble_eq_true rfl) rfl (fun ls hl => ?_)
            refine lv_goto (tgt := 4) hx hb dX0_countRepeated_24 (by decide) ?_
            refine lv_iload_n hx hb dX0_countRepeated_4 rfl (lv_at hl 0 rfl) ?_
            refine lv_bipush (v := (6 : Int32)) hx hb dX0_countRepeated_5 (by decide) ?_
            refine lv_icmp_ge (tgt := 27) hx hb dX0_countRepeated_7 (by decide) (fun _ => ?_) (fun c_x => absurd (show (6 : Int32) ≤ (6 : Int32) from by decide) c_x)
            refine lv_iload_n hx hb dX0_countRepeated_27 rfl (lv_at hl 1 rfl) ?_
            exact re_i hx hb hr hk dX0_countRepeated_28 (ei (Eq.trans (if_pos c_1) (Eq.trans (if_neg c_2) (Eq.trans (if_neg c_10) (Eq.trans (if_neg c_14) (if_pos c_16))))))
          · refine lv_iinc (v := (4 : Int32)) (lv' := [(1, .int (4 : Int32)), (2, .int (5 : Int32)), (0, .ref (a 0))]) hx hb dX0_countRepeated_18 hl (k := 1) rfl (by first | rfl | decide) (Nat.le_of_ble_eq_true rfl) rfl (fun ls hl => ?_)
            refine lv_iinc (v := (6 : Int32)) (lv' := [(2, .int (6 : Int32)), (1, .int (4 : Int32)), (0, .ref (a 0))]) hx hb dX0_countRepeated_21 hl (k := 1) rfl (by first | rfl | decide) (Nat.le_of_ble_eq_true rfl) rfl (fun ls hl => ?_)
            refine lv_goto (tgt := 4) hx hb dX0_countRepeated_24 (by decide) ?_
            refine lv_iload_n hx hb dX0_countRepeated_4 rfl (lv_at hl 0 rfl) ?_
            refine lv_bipush (v := (6 : Int32)) hx hb dX0_countRepeated_5 (by decide) ?_
            refine lv_icmp_ge (tgt := 27) hx hb dX0_countRepeated_7 (by decide) (fun _ => ?_) (fun c_x => absurd (show (6 : Int32) ≤ (6 : Int32) from by decide) c_x)
            refine lv_iload_n hx hb dX0_countRepeated_27 rfl (lv_at hl 1 rfl) ?_
            exact re_i hx hb hr hk dX0_countRepeated_28 (ei (Eq.trans (if_pos c_1) (Eq.trans (if_neg c_2) (Eq.trans (if_neg c_10) (Eq.trans (if_neg c_14) (if_neg c_16))))))
  · refine lv_iinc (v := (1 : Int32)) (lv' := [(1, .int (1 : Int32)), (2, .int (1 : Int32)), (0, .ref (a 0))]) hx hb dX0_countRepeated_18 hl (k := 1) rfl (by first | rfl | decide) (Nat.le_of_ble_eq_true rfl) rfl (fun ls hl => ?_)
    refine lv_iinc (v := (2 : Int32)) (lv' := [(2, .int (2 : Int32)), (1, .int (1 : Int32)), (0, .ref (a 0))]) hx hb dX0_countRepeated_21 hl (k := 1) rfl (by first | rfl | decide) (Nat.le_of_ble_eq_true rfl) rfl (fun ls hl => ?_)
    refine lv_goto (tgt := 4) hx hb dX0_countRepeated_24 (by decide) ?_
    refine lv_iload_n hx hb dX0_countRepeated_4 rfl (lv_at hl 0 rfl) ?_
    refine lv_bipush (v := (6 : Int32)) hx hb dX0_countRepeated_5 (by decide) ?_
    refine lv_icmp_ge (tgt := 27) hx hb dX0_countRepeated_7 (by decide) (fun c_x => absurd c_x (by decide)) (fun _ => ?_)
    refine lv_aload_n hx hb dX0_countRepeated_10 rfl (lv_at hl 2 rfl) ?_
    refine lv_iload_n hx hb dX0_countRepeated_11 rfl (lv_at hl 0 rfl) ?_
    refine rcVi (as := [.int (2 : Int32)]) (rest := []) (cl := RX0) C (c_X0_isRepeated l G a S (2 : Int32) (vp_in_lit 2)) F_X0_isRepeated rfl bw278 bw280 bw15 hE hP (rv2 hE.K hP (q0 := 0) rfl) hl.1 dX0_countRepeated_12 ⟨Nat.le_of_ble_eq_true rfl, Nat.le_of_ble_eq_true rfl⟩ rfl (Nat.le_of_ble_eq_true rfl) ⟨Nat.zero_le _, Nat.zero_le _⟩ ?_
    refine lv_if_eq (tgt := 21) hx hb dX0_countRepeated_15 (by decide) (fun c_17 => ?_) (fun c_17 => ?_)
    · refine lv_iinc (v := (3 : Int32)) (lv' := [(2, .int (3 : Int32)), (1, .int (1 : Int32)), (0, .ref (a 0))]) hx hb dX0_countRepeated_21 hl (k := 0) rfl (by first | rfl | decide) (Nat.le_of_ble_eq_true rfl) rfl (fun ls hl => ?_)
      refine lv_goto (tgt := 4) hx hb dX0_countRepeated_24 (by decide) ?_
      refine lv_iload_n hx hb dX0_countRepeated_4 rfl (lv_at hl 0 rfl) ?_
      refine lv_bipush (v := (6 : Int32)) hx hb dX0_countRepeated_5 (by decide) ?_
      refine lv_icmp_ge (tgt := 27) hx hb dX0_countRepeated_7 (by decide) (fun c_x => absurd c_x (by decide)) (fun _ => ?_)
      refine lv_aload_n hx hb dX0_countRepeated_10 rfl (lv_at hl 2 rfl) ?_
      refine lv_iload_n hx hb dX0_countRepeated_11 rfl (lv_at hl 0 rfl) ?_
      refine rcVi (as := [.int (3 : Int32)]) (rest := []) (cl := RX0) C (c_X0_isRepeated l G a S (3 : Int32) (vp_in_lit 3)) F_X0_isRepeated rfl bw278 bw280 bw15 hE hP (rv2 hE.K hP (q0 := 0) rfl) hl.1 dX0_countRepeated_12 ⟨Nat.le_of_ble_eq_true rfl, Nat.le_of_ble_eq_true rfl⟩ rfl (Nat.le_of_ble_eq_true rfl) ⟨Nat.zero_le _, Nat.zero_le _⟩ ?_
      refine lv_if_eq (tgt := 21) hx hb dX0_countRepeated_15 (by decide) (fun c_18 => ?_) (fun c_18 => ?_)
      · refine lv_iinc (v := (4 : Int32)) (lv' := [(2, .int (4 : Int32)), (1, .int (1 : Int32)), (0, .ref (a 0))]) hx hb dX0_countRepeated_21 hl (k := 0) rfl (by first | rfl | decide) (Nat.le_of_ble_eq_true rfl) rfl (fun ls hl => ?_)
        refine lv_goto (tgt := 4) hx hb dX0_countRepeated_24 (by decide) ?_
        refine lv_iload_n hx hb dX0_countRepeated_4 rfl (lv_at hl 0 rfl) ?_
        refine lv_bipush (v := (6 : Int32)) hx hb dX0_countRepeated_5 (by decide) ?_
        refine lv_icmp_ge (tgt := 27) hx hb dX0_countRepeated_7 (by decide) (fun c_x => absurd c_x (by decide)) (fun _ => ?_)
        refine lv_aload_n hx hb dX0_countRepeated_10 rfl (lv_at hl 2 rfl) ?_
        refine lv_iload_n hx hb dX0_countRepeated_11 rfl (lv_at hl 0 rfl) ?_
        refine rcVi (as := [.int (4 : Int32)]) (rest := []) (cl := RX0) C (c_X0_isRepeated l G a S (4 : Int32) (vp_in_lit 4)) F_X0_isRepeated rfl bw278 bw280 bw15 hE hP (rv2 hE.K hP (q0 := 0) rfl) hl.1 dX0_countRepeated_12 ⟨Nat.le_of_ble_eq_true rfl, Nat.le_of_ble_eq_true rfl⟩ rfl (Nat.le_of_ble_eq_true rfl) ⟨Nat.zero_le _, Nat.zero_le _⟩ ?_
        refine lv_if_eq (tgt := 21) hx hb dX0_countRepeated_15 (by decide) (fun c_19 => ?_) (fun c_19 => ?_)
        · refine lv_iinc (v := (5 : Int32)) (lv' := [(2, .int (5 : Int32)), (1, .int (1 : Int32)), (0, .ref (a 0))]) hx hb dX0_countRepeated_21 hl (k := 0) rfl (by first | rfl | decide) (Nat.le_of_ble_eq_true rfl) rfl (fun ls hl => ?_)
          refine lv_goto (tgt := 4) hx hb dX0_countRepeated_24 (by decide) ?_
          refine lv_iload_n hx hb dX0_countRepeated_4 rfl (lv_at hl 0 rfl) ?_
          refine lv_bipush (v := (6 : Int32)) hx hb dX0_countRepeated_5 (by decide) ?_
          refine lv_icmp_ge (tgt := 27) hx hb dX0_countRepeated_7 (by decide) (fun c_x => absurd c_x (by decide)) (fun _ => ?_)
          refine lv_aload_n hx hb dX0_countRepeated_10 rfl (lv_at hl 2 rfl) ?_
          refine lv_iload_n hx hb dX0_countRepeated_11 rfl (lv_at hl 0 rfl) ?_
          refine rcVi (as := [.int (5 : Int32)]) (rest := []) (cl := RX0) C (c_X0_isRepeated l G a S (5 : Int32) (vp_in_lit 5)) F_X0_isRepeated rfl bw278 bw280 bw15 hE hP (rv2 hE.K hP (q0 := 0) rfl) hl.1 dX0_countRepeated_12 ⟨Nat.le_of_ble_eq_true rfl, Nat.le_of_ble_eq_true rfl⟩ rfl (Nat.le_of_ble_eq_true rfl) ⟨Nat.zero_le _, Nat.zero_le _⟩ ?_
          refine lv_if_eq (tgt := 21) hx hb dX0_countRepeated_15 (by decide) (fun c_20 => ?_) (fun c_20 => ?_)
          · refine lv_iinc (v := (6 : Int32)) (lv' := [(2, .int (6 : Int32)), (1, .int (1 : Int32)), (0, .ref (a 0))]) hx hb dX0_countRepeated_21 hl (k := 0) rfl (by first | rfl | decide) (Nat.le_of_ble_eq_true rfl) rfl (fun ls hl => ?_)
            refine lv_goto (tgt := 4) hx hb dX0_countRepeated_24 (by decide) ?_
            refine lv_iload_n hx hb dX0_countRepeated_4 rfl (lv_at hl 0 rfl) ?_
            refine lv_bipush (v := (6 : Int32)) hx hb dX0_countRepeated_5 (by decide) ?_
            refine lv_icmp_ge (tgt := 27) hx hb dX0_countRepeated_7 (by decide) (fun _ => ?_) (fun c_x => absurd (show (6 : Int32) ≤ (6 : Int32) from by decide) c_x)
            refine lv_iload_n hx hb dX0_countRepeated_27 rfl (lv_at hl 1 rfl) ?_
            exact re_i hx hb hr hk dX0_countRepeated_28 (ei (Eq.trans (if_neg c_1) (Eq.trans (if_pos c_17) (Eq.trans (if_pos c_18) (Eq.trans (if_pos c_19) (if_pos c_20))))))
          · refine lv_iinc (v := (2 : Int32)) (lv' := [(1, .int (2 : Int32)), (2, .int (5 : Int32)), (0, .ref (a 0))]) hx hb dX0_countRepeated_18 hl (k := 1) rfl (by first | rfl | decide) (Nat.le_of_ble_eq_true rfl) rfl (fun ls hl => ?_)
            refine lv_iinc (v := (6 : Int32)) (lv' := [(2, .int (6 : Int32)), (1, .int (2 : Int32)), (0, .ref (a 0))]) hx hb dX0_countRepeated_21 hl (k := 1) rfl (by first | rfl | decide) (Nat.le_of_ble_eq_true rfl) rfl (fun ls hl => ?_)
            refine lv_goto (tgt := 4) hx hb dX0_countRepeated_24 (by decide) ?_
            refine lv_iload_n hx hb dX0_countRepeated_4 rfl (lv_at hl 0 rfl) ?_
            refine lv_bipush (v := (6 : Int32)) hx hb dX0_countRepeated_5 (by decide) ?_
            refine lv_icmp_ge (tgt := 27) hx hb dX0_countRepeated_7 (by decide) (fun _ => ?_) (fun c_x => absurd (show (6 : Int32) ≤ (6 : Int32) from by decide) c_x)
            refine lv_iload_n hx hb dX0_countRepeated_27 rfl (lv_at hl 1 rfl) ?_
            exact re_i hx hb hr hk dX0_countRepeated_28 (ei (Eq.trans (if_neg c_1) (Eq.trans (if_pos c_17) (Eq.trans (if_pos c_18) (Eq.trans (if_pos c_19) (if_neg c_20))))))
        · refine lv_iinc (v := (2 : Int32)) (lv' := [(1, .int (2 : Int32)), (2, .int (4 : Int32)), (0, .ref (a 0))]) hx hb dX0_countRepeated_18 hl (k := 1) rfl (by first | rfl | decide) (Nat.le_of_ble_eq_true rfl) rfl (fun ls hl => ?_)
          refine lv_iinc (v := (5 : Int32)) (lv' := [(2, .int (5 : Int32)), (1, .int (2 : Int32)), (0, .ref (a 0))]) hx hb dX0_countRepeated_21 hl (k := 1) rfl (by first | rfl | decide) (Nat.le_of_ble_eq_true rfl) rfl (fun ls hl => ?_)
          refine lv_goto (tgt := 4) hx hb dX0_countRepeated_24 (by decide) ?_
          refine lv_iload_n hx hb dX0_countRepeated_4 rfl (lv_at hl 0 rfl) ?_
          refine lv_bipush (v := (6 : Int32)) hx hb dX0_countRepeated_5 (by decide) ?_
          refine lv_icmp_ge (tgt := 27) hx hb dX0_countRepeated_7 (by decide) (fun c_x => absurd c_x (by decide)) (fun _ => ?_)
          refine lv_aload_n hx hb dX0_countRepeated_10 rfl (lv_at hl 2 rfl) ?_
          refine lv_iload_n hx hb dX0_countRepeated_11 rfl (lv_at hl 0 rfl) ?_
          refine rcVi (as := [.int (5 : Int32)]) (rest := []) (cl := RX0) C (c_X0_isRepeated l G a S (5 : Int32) (vp_in_lit 5)) F_X0_isRepeated rfl bw278 bw280 bw15 hE hP (rv2 hE.K hP (q0 := 0) rfl) hl.1 dX0_countRepeated_12 ⟨Nat.le_of_ble_eq_true rfl, Nat.le_of_ble_eq_true rfl⟩ rfl (Nat.le_of_ble_eq_true rfl) ⟨Nat.zero_le _, Nat.zero_le _⟩ ?_
          refine lv_if_eq (tgt := 21) hx hb dX0_countRepeated_15 (by decide) (fun c_21 => ?_) (fun c_21 => ?_)
          · refine lv_iinc (v := (6 : Int32)) (lv' := [(2, .int (6 : Int32)), (1, .int (2 : Int32)), (0, .ref (a 0))]) hx hb dX0_countRepeated_21 hl (k := 0) rfl (by first | rfl | decide) (Nat.le_of_ble_eq_true rfl) rfl (fun ls hl => ?_)
            refine lv_goto (tgt := 4) hx hb dX0_countRepeated_24 (by decide) ?_
            refine lv_iload_n hx hb dX0_countRepeated_4 rfl (lv_at hl 0 rfl) ?_
            refine lv_bipush (v := (6 : Int32)) hx hb dX0_countRepeated_5 (by decide) ?_
            refine lv_icmp_ge (tgt := 27) hx hb dX0_countRepeated_7 (by decide) (fun _ => ?_) (fun c_x => absurd (show (6 : Int32) ≤ (6 : Int32) from by decide) c_x)
            refine lv_iload_n hx hb dX0_countRepeated_27 rfl (lv_at hl 1 rfl) ?_
            exact re_i hx hb hr hk dX0_countRepeated_28 (ei (Eq.trans (if_neg c_1) (Eq.trans (if_pos c_17) (Eq.trans (if_pos c_18) (Eq.trans (if_neg c_19) (if_pos c_21))))))
          · refine lv_iinc (v := (3 : Int32)) (lv' := [(1, .int (3 : Int32)), (2, .int (5 : Int32)), (0, .ref (a 0))]) hx hb dX0_countRepeated_18 hl (k := 1) rfl (by first | rfl | decide) (Nat.le_of_ble_eq_true rfl) rfl (fun ls hl => ?_)
            refine lv_iinc (v := (6 : Int32)) (lv' := [(2, .int (6 : Int32)), (1, .int (3 : Int32)), (0, .ref (a 0))]) hx hb dX0_countRepeated_21 hl (k := 1) rfl (by first | rfl | decide) (Nat.le_of_ble_eq_true rfl) rfl (fun ls hl => ?_)
            refine lv_goto (tgt := 4) hx hb dX0_countRepeated_24 (by decide) ?_
            refine lv_iload_n hx hb dX0_countRepeated_4 rfl (lv_at hl 0 rfl) ?_
            refine lv_bipush (v := (6 : Int32)) hx hb dX0_countRepeated_5 (by decide) ?_
            refine lv_icmp_ge (tgt := 27) hx hb dX0_countRepeated_7 (by decide) (fun _ => ?_) (fun c_x => absurd (show (6 : Int32) ≤ (6 : Int32) from by decide) c_x)
            refine lv_iload_n hx hb dX0_countRepeated_27 rfl (lv_at hl 1 rfl) ?_
            exact re_i hx hb hr hk dX0_countRepeated_28 (ei (Eq.trans (if_neg c_1) (Eq.trans (if_pos c_17) (Eq.trans (if_pos c_18) (Eq.trans (if_neg c_19) (if_neg c_21))))))
      · refine lv_iinc (v := (2 : Int32)) (lv' := [(1, .int (2 : Int32)), (2, .int (3 : Int32)), (0, .ref (a 0))]) hx hb dX0_countRepeated_18 hl (k := 1) rfl (by first | rfl | decide) (Nat.le_of_ble_eq_true rfl) rfl (fun ls hl => ?_)
        refine lv_iinc (v := (4 : Int32)) (lv' := [(2, .int (4 : Int32)), (1, .int (2 : Int32)), (0, .ref (a 0))]) hx hb dX0_countRepeated_21 hl (k := 1) rfl (by first | rfl | decide) (Nat.le_of_ble_eq_true rfl) rfl (fun ls hl => ?_)
        refine lv_goto (tgt := 4) hx hb dX0_countRepeated_24 (by decide) ?_
        refine lv_iload_n hx hb dX0_countRepeated_4 rfl (lv_at hl 0 rfl) ?_
        refine lv_bipush (v := (6 : Int32)) hx hb dX0_countRepeated_5 (by decide) ?_
        refine lv_icmp_ge (tgt := 27) hx hb dX0_countRepeated_7 (by decide) (fun c_x => absurd c_x (by decide)) (fun _ => ?_)
        refine lv_aload_n hx hb dX0_countRepeated_10 rfl (lv_at hl 2 rfl) ?_
        refine lv_iload_n hx hb dX0_countRepeated_11 rfl (lv_at hl 0 rfl) ?_
        refine rcVi (as := [.int (4 : Int32)]) (rest := []) (cl := RX0) C (c_X0_isRepeated l G a S (4 : Int32) (vp_in_lit 4)) F_X0_isRepeated rfl bw278 bw280 bw15 hE hP (rv2 hE.K hP (q0 := 0) rfl) hl.1 dX0_countRepeated_12 ⟨Nat.le_of_ble_eq_true rfl, Nat.le_of_ble_eq_true rfl⟩ rfl (Nat.le_of_ble_eq_true rfl) ⟨Nat.zero_le _, Nat.zero_le _⟩ ?_
        refine lv_if_eq (tgt := 21) hx hb dX0_countRepeated_15 (by decide) (fun c_22 => ?_) (fun c_22 => ?_)
        · refine lv_iinc (v := (5 : Int32)) (lv' := [(2, .int (5 : Int32)), (1, .int (2 : Int32)), (0, .ref (a 0))]) hx hb dX0_countRepeated_21 hl (k := 0) rfl (by first | rfl | decide) (Nat.le_of_ble_eq_true rfl) rfl (fun ls hl => ?_)
          refine lv_goto (tgt := 4) hx hb dX0_countRepeated_24 (by decide) ?_
          refine lv_iload_n hx hb dX0_countRepeated_4 rfl (lv_at hl 0 rfl) ?_
          refine lv_bipush (v := (6 : Int32)) hx hb dX0_countRepeated_5 (by decide) ?_
          refine lv_icmp_ge (tgt := 27) hx hb dX0_countRepeated_7 (by decide) (fun c_x => absurd c_x (by decide)) (fun _ => ?_)
          refine lv_aload_n hx hb dX0_countRepeated_10 rfl (lv_at hl 2 rfl) ?_
          refine lv_iload_n hx hb dX0_countRepeated_11 rfl (lv_at hl 0 rfl) ?_
          refine rcVi (as := [.int (5 : Int32)]) (rest := []) (cl := RX0) C (c_X0_isRepeated l G a S (5 : Int32) (vp_in_lit 5)) F_X0_isRepeated rfl bw278 bw280 bw15 hE hP (rv2 hE.K hP (q0 := 0) rfl) hl.1 dX0_countRepeated_12 ⟨Nat.le_of_ble_eq_true rfl, Nat.le_of_ble_eq_true rfl⟩ rfl (Nat.le_of_ble_eq_true rfl) ⟨Nat.zero_le _, Nat.zero_le _⟩ ?_
          refine lv_if_eq (tgt := 21) hx hb dX0_countRepeated_15 (by decide) (fun c_23 => ?_) (fun c_23 => ?_)
          · refine lv_iinc (v := (6 : Int32)) (lv' := [(2, .int (6 : Int32)), (1, .int (2 : Int32)), (0, .ref (a 0))]) hx hb dX0_countRepeated_21 hl (k := 0) rfl (by first | rfl | decide) (Nat.le_of_ble_eq_true rfl) rfl (fun ls hl => ?_)
            refine lv_goto (tgt := 4) hx hb dX0_countRepeated_24 (by decide) ?_
            refine lv_iload_n hx hb dX0_countRepeated_4 rfl (lv_at hl 0 rfl) ?_
            refine lv_bipush (v := (6 : Int32)) hx hb dX0_countRepeated_5 (by decide) ?_
            refine lv_icmp_ge (tgt := 27) hx hb dX0_countRepeated_7 (by decide) (fun _ => ?_) (fun c_x => absurd (show (6 : Int32) ≤ (6 : Int32) from by decide) c_x)
            refine lv_iload_n hx hb dX0_countRepeated_27 rfl (lv_at hl 1 rfl) ?_
            exact re_i hx hb hr hk dX0_countRepeated_28 (ei (Eq.trans (if_neg c_1) (Eq.trans (if_pos c_17) (Eq.trans (if_neg c_18) (Eq.trans (if_pos c_22) (if_pos c_23))))))
          · refine lv_iinc (v := (3 : Int32)) (lv' := [(1, .int (3 : Int32)), (2, .int (5 : Int32)), (0, .ref (a 0))]) hx hb dX0_countRepeated_18 hl (k := 1) rfl (by first | rfl | decide) (Nat.le_of_ble_eq_true rfl) rfl (fun ls hl => ?_)
            refine lv_iinc (v := (6 : Int32)) (lv' := [(2, .int (6 : Int32)), (1, .int (3 : Int32)), (0, .ref (a 0))]) hx hb dX0_countRepeated_21 hl (k := 1) rfl (by first | rfl | decide) (Nat.le_of_ble_eq_true rfl) rfl (fun ls hl => ?_)
            refine lv_goto (tgt := 4) hx hb dX0_countRepeated_24 (by decide) ?_
            refine lv_iload_n hx hb dX0_countRepeated_4 rfl (lv_at hl 0 rfl) ?_
            refine lv_bipush (v := (6 : Int32)) hx hb dX0_countRepeated_5 (by decide) ?_
            refine lv_icmp_ge (tgt := 27) hx hb dX0_countRepeated_7 (by decide) (fun _ => ?_) (fun c_x => absurd (show (6 : Int32) ≤ (6 : Int32) from by decide) c_x)
            refine lv_iload_n hx hb dX0_countRepeated_27 rfl (lv_at hl 1 rfl) ?_
            exact re_i hx hb hr hk dX0_countRepeated_28 (ei (Eq.trans (if_neg c_1) (Eq.trans (if_pos c_17) (Eq.trans (if_neg c_18) (Eq.trans (if_pos c_22) (if_neg c_23))))))
        · refine lv_iinc (v := (3 : Int32)) (lv' := [(1, .int (3 : Int32)), (2, .int (4 : Int32)), (0, .ref (a 0))]) hx hb dX0_countRepeated_18 hl (k := 1) rfl (by first | rfl | decide) (Nat.le_of_ble_eq_true rfl) rfl (fun ls hl => ?_)
          refine lv_iinc (v := (5 : Int32)) (lv' := [(2, .int (5 : Int32)), (1, .int (3 : Int32)), (0, .ref (a 0))]) hx hb dX0_countRepeated_21 hl (k := 1) rfl (by first | rfl | decide) (Nat.le_of_ble_eq_true rfl) rfl (fun ls hl => ?_)
          refine lv_goto (tgt := 4) hx hb dX0_countRepeated_24 (by decide) ?_
          refine lv_iload_n hx hb dX0_countRepeated_4 rfl (lv_at hl 0 rfl) ?_
          refine lv_bipush (v := (6 : Int32)) hx hb dX0_countRepeated_5 (by decide) ?_
          refine lv_icmp_ge (tgt := 27) hx hb dX0_countRepeated_7 (by decide) (fun c_x => absurd c_x (by decide)) (fun _ => ?_)
          refine lv_aload_n hx hb dX0_countRepeated_10 rfl (lv_at hl 2 rfl) ?_
          refine lv_iload_n hx hb dX0_countRepeated_11 rfl (lv_at hl 0 rfl) ?_
          refine rcVi (as := [.int (5 : Int32)]) (rest := []) (cl := RX0) C (c_X0_isRepeated l G a S (5 : Int32) (vp_in_lit 5)) F_X0_isRepeated rfl bw278 bw280 bw15 hE hP (rv2 hE.K hP (q0 := 0) rfl) hl.1 dX0_countRepeated_12 ⟨Nat.le_of_ble_eq_true rfl, Nat.le_of_ble_eq_true rfl⟩ rfl (Nat.le_of_ble_eq_true rfl) ⟨Nat.zero_le _, Nat.zero_le _⟩ ?_
          refine lv_if_eq (tgt := 21) hx hb dX0_countRepeated_15 (by decide) (fun c_24 => ?_) (fun c_24 => ?_)
          · refine lv_iinc (v := (6 : Int32)) (lv' := [(2, .int (6 : Int32)), (1, .int (3 : Int32)), (0, .ref (a 0))]) hx hb dX0_countRepeated_21 hl (k := 0) rfl (by first | rfl | decide) (Nat.le_of_ble_eq_true rfl) rfl (fun ls hl => ?_)
            refine lv_goto (tgt := 4) hx hb dX0_countRepeated_24 (by decide) ?_
            refine lv_iload_n hx hb dX0_countRepeated_4 rfl (lv_at hl 0 rfl) ?_
            refine lv_bipush (v := (6 : Int32)) hx hb dX0_countRepeated_5 (by decide) ?_
            refine lv_icmp_ge (tgt := 27) hx hb dX0_countRepeated_7 (by decide) (fun _ => ?_) (fun c_x => absurd (show (6 : Int32) ≤ (6 : Int32) from by decide) c_x)
            refine lv_iload_n hx hb dX0_countRepeated_27 rfl (lv_at hl 1 rfl) ?_
            exact re_i hx hb hr hk dX0_countRepeated_28 (ei (Eq.trans (if_neg c_1) (Eq.trans (if_pos c_17) (Eq.trans (if_neg c_18) (Eq.trans (if_neg c_22) (if_pos c_24))))))
          · refine lv_iinc (v := (4 : Int32)) (lv' := [(1, .int (4 : Int32)), (2, .int (5 : Int32)), (0, .ref (a 0))]) hx hb dX0_countRepeated_18 hl (k := 1) rfl (by first | rfl | decide) (Nat.le_of_ble_eq_true rfl) rfl (fun ls hl => ?_)
            refine lv_iinc (v := (6 : Int32)) (lv' := [(2, .int (6 : Int32)), (1, .int (4 : Int32)), (0, .ref (a 0))]) hx hb dX0_countRepeated_21 hl (k := 1) rfl (by first | rfl | decide) (Nat.le_of_ble_eq_true rfl) rfl (fun ls hl => ?_)
            refine lv_goto (tgt := 4) hx hb dX0_countRepeated_24 (by decide) ?_
            refine lv_iload_n hx hb dX0_countRepeated_4 rfl (lv_at hl 0 rfl) ?_
            refine lv_bipush (v := (6 : Int32)) hx hb dX0_countRepeated_5 (by decide) ?_
            refine lv_icmp_ge (tgt := 27) hx hb dX0_countRepeated_7 (by decide) (fun _ => ?_) (fun c_x => absurd (show (6 : Int32) ≤ (6 : Int32) from by decide) c_x)
            refine lv_iload_n hx hb dX0_countRepeated_27 rfl (lv_at hl 1 rfl) ?_
            exact re_i hx hb hr hk dX0_countRepeated_28 (ei (Eq.trans (if_neg c_1) (Eq.trans (if_pos c_17) (Eq.trans (if_neg c_18) (Eq.trans (if_neg c_22) (if_neg c_24))))))
    · refine lv_iinc (v := (2 : Int32)) (lv' := [(1, .int (2 : Int32)), (2, .int (2 : Int32)), (0, .ref (a 0))]) hx hb dX0_countRepeated_18 hl (k := 1) rfl (by first | rfl | decide) (Nat.le_of_ble_eq_true rfl) rfl (fun ls hl => ?_)
      refine lv_iinc (v := (3 : Int32)) (lv' := [(2, .int (3 : Int32)), (1, .int (2 : Int32)), (0, .ref (a 0))]) hx hb dX0_countRepeated_21 hl (k := 1) rfl (by first | rfl | decide) (Nat.le_of_ble_eq_true rfl) rfl (fun ls hl => ?_)
      refine lv_goto (tgt := 4) hx hb dX0_countRepeated_24 (by decide) ?_
      refine lv_iload_n hx hb dX0_countRepeated_4 rfl (lv_at hl 0 rfl) ?_
      refine lv_bipush (v := (6 : Int32)) hx hb dX0_countRepeated_5 (by decide) ?_
      refine lv_icmp_ge (tgt := 27) hx hb dX0_countRepeated_7 (by decide) (fun c_x => absurd c_x (by decide)) (fun _ => ?_)
      refine lv_aload_n hx hb dX0_countRepeated_10 rfl (lv_at hl 2 rfl) ?_
      refine lv_iload_n hx hb dX0_countRepeated_11 rfl (lv_at hl 0 rfl) ?_
      refine rcVi (as := [.int (3 : Int32)]) (rest := []) (cl := RX0) C (c_X0_isRepeated l G a S (3 : Int32) (vp_in_lit 3)) F_X0_isRepeated rfl bw278 bw280 bw15 hE hP (rv2 hE.K hP (q0 := 0) rfl) hl.1 dX0_countRepeated_12 ⟨Nat.le_of_ble_eq_true rfl, Nat.le_of_ble_eq_true rfl⟩ rfl (Nat.le_of_ble_eq_true rfl) ⟨Nat.zero_le _, Nat.zero_le _⟩ ?_
      refine lv_if_eq (tgt := 21) hx hb dX0_countRepeated_15 (by decide) (fun c_25 => ?_) (fun c_25 => ?_)
      · refine lv_iinc (v := (4 : Int32)) (lv' := [(2, .int (4 : Int32)), (1, .int (2 : Int32)), (0, .ref (a 0))]) hx hb dX0_countRepeated_21 hl (k := 0) rfl (by first | rfl | decide) (Nat.le_of_ble_eq_true rfl) rfl (fun ls hl => ?_)
        refine lv_goto (tgt := 4) hx hb dX0_countRepeated_24 (by decide) ?_
        refine lv_iload_n hx hb dX0_countRepeated_4 rfl (lv_at hl 0 rfl) ?_
        refine lv_bipush (v := (6 : Int32)) hx hb dX0_countRepeated_5 (by decide) ?_
        refine lv_icmp_ge (tgt := 27) hx hb dX0_countRepeated_7 (by decide) (fun c_x => absurd c_x (by decide)) (fun _ => ?_)
        refine lv_aload_n hx hb dX0_countRepeated_10 rfl (lv_at hl 2 rfl) ?_
        refine lv_iload_n hx hb dX0_countRepeated_11 rfl (lv_at hl 0 rfl) ?_
        refine rcVi (as := [.int (4 : Int32)]) (rest := []) (cl := RX0) C (c_X0_isRepeated l G a S (4 : Int32) (vp_in_lit 4)) F_X0_isRepeated rfl bw278 bw280 bw15 hE hP (rv2 hE.K hP (q0 := 0) rfl) hl.1 dX0_countRepeated_12 ⟨Nat.le_of_ble_eq_true rfl, Nat.le_of_ble_eq_true rfl⟩ rfl (Nat.le_of_ble_eq_true rfl) ⟨Nat.zero_le _, Nat.zero_le _⟩ ?_
        refine lv_if_eq (tgt := 21) hx hb dX0_countRepeated_15 (by decide) (fun c_26 => ?_) (fun c_26 => ?_)
        · refine lv_iinc (v := (5 : Int32)) (lv' := [(2, .int (5 : Int32)), (1, .int (2 : Int32)), (0, .ref (a 0))]) hx hb dX0_countRepeated_21 hl (k := 0) rfl (by first | rfl | decide) (Nat.le_of_ble_eq_true rfl) rfl (fun ls hl => ?_)
          refine lv_goto (tgt := 4) hx hb dX0_countRepeated_24 (by decide) ?_
          refine lv_iload_n hx hb dX0_countRepeated_4 rfl (lv_at hl 0 rfl) ?_
          refine lv_bipush (v := (6 : Int32)) hx hb dX0_countRepeated_5 (by decide) ?_
          refine lv_icmp_ge (tgt := 27) hx hb dX0_countRepeated_7 (by decide) (fun c_x => absurd c_x (by decide)) (fun _ => ?_)
          refine lv_aload_n hx hb dX0_countRepeated_10 rfl (lv_at hl 2 rfl) ?_
          refine lv_iload_n hx hb dX0_countRepeated_11 rfl (lv_at hl 0 rfl) ?_
          refine rcVi (as := [.int (5 : Int32)]) (rest := []) (cl := RX0) C (c_X0_isRepeated l G a S (5 : Int32) (vp_in_lit 5)) F_X0_isRepeated rfl bw278 bw280 bw15 hE hP (rv2 hE.K hP (q0 := 0) rfl) hl.1 dX0_countRepeated_12 ⟨Nat.le_of_ble_eq_true rfl, Nat.le_of_ble_eq_true rfl⟩ rfl (Nat.le_of_ble_eq_true rfl) ⟨Nat.zero_le _, Nat.zero_le _⟩ ?_
          refine lv_if_eq (tgt := 21) hx hb dX0_countRepeated_15 (by decide) (fun c_27 => ?_) (fun c_27 => ?_)
          · refine lv_iinc (v := (6 : Int32)) (lv' := [(2, .int (6 : Int32)), (1, .int (2 : Int32)), (0, .ref (a 0))]) hx hb dX0_countRepeated_21 hl (k := 0) rfl (by first | rfl | decide) (Nat.le_of_ble_eq_true rfl) rfl (fun ls hl => ?_)
            refine lv_goto (tgt := 4) hx hb dX0_countRepeated_24 (by decide) ?_
            refine lv_iload_n hx hb dX0_countRepeated_4 rfl (lv_at hl 0 rfl) ?_
            refine lv_bipush (v := (6 : Int32)) hx hb dX0_countRepeated_5 (by decide) ?_
            refine lv_icmp_ge (tgt := 27) hx hb dX0_countRepeated_7 (by decide) (fun _ => ?_) (fun c_x => absurd (show (6 : Int32) ≤ (6 : Int32) from by decide) c_x)
            refine lv_iload_n hx hb dX0_countRepeated_27 rfl (lv_at hl 1 rfl) ?_
            exact re_i hx hb hr hk dX0_countRepeated_28 (ei (Eq.trans (if_neg c_1) (Eq.trans (if_neg c_17) (Eq.trans (if_pos c_25) (Eq.trans (if_pos c_26) (if_pos c_27))))))
          · refine lv_iinc (v := (3 : Int32)) (lv' := [(1, .int (3 : Int32)), (2, .int (5 : Int32)), (0, .ref (a 0))]) hx hb dX0_countRepeated_18 hl (k := 1) rfl (by first | rfl | decide) (Nat.le_of_ble_eq_true rfl) rfl (fun ls hl => ?_)
            refine lv_iinc (v := (6 : Int32)) (lv' := [(2, .int (6 : Int32)), (1, .int (3 : Int32)), (0, .ref (a 0))]) hx hb dX0_countRepeated_21 hl (k := 1) rfl (by first | rfl | decide) (Nat.le_of_ble_eq_true rfl) rfl (fun ls hl => ?_)
            refine lv_goto (tgt := 4) hx hb dX0_countRepeated_24 (by decide) ?_
            refine lv_iload_n hx hb dX0_countRepeated_4 rfl (lv_at hl 0 rfl) ?_
            refine lv_bipush (v := (6 : Int32)) hx hb dX0_countRepeated_5 (by decide) ?_
            refine lv_icmp_ge (tgt := 27) hx hb dX0_countRepeated_7 (by decide) (fun _ => ?_) (fun c_x => absurd (show (6 : Int32) ≤ (6 : Int32) from by decide) c_x)
            refine lv_iload_n hx hb dX0_countRepeated_27 rfl (lv_at hl 1 rfl) ?_
            exact re_i hx hb hr hk dX0_countRepeated_28 (ei (Eq.trans (if_neg c_1) (Eq.trans (if_neg c_17) (Eq.trans (if_pos c_25) (Eq.trans (if_pos c_26) (if_neg c_27))))))
        · refine lv_iinc (v := (3 : Int32)) (lv' := [(1, .int (3 : Int32)), (2, .int (4 : Int32)), (0, .ref (a 0))]) hx hb dX0_countRepeated_18 hl (k := 1) rfl (by first | rfl | decide) (Nat.le_of_ble_eq_true rfl) rfl (fun ls hl => ?_)
          refine lv_iinc (v := (5 : Int32)) (lv' := [(2, .int (5 : Int32)), (1, .int (3 : Int32)), (0, .ref (a 0))]) hx hb dX0_countRepeated_21 hl (k := 1) rfl (by first | rfl | decide) (Nat.le_of_ble_eq_true rfl) rfl (fun ls hl => ?_)
          refine lv_goto (tgt := 4) hx hb dX0_countRepeated_24 (by decide) ?_
          refine lv_iload_n hx hb dX0_countRepeated_4 rfl (lv_at hl 0 rfl) ?_
          refine lv_bipush (v := (6 : Int32)) hx hb dX0_countRepeated_5 (by decide) ?_
          refine lv_icmp_ge (tgt := 27) hx hb dX0_countRepeated_7 (by decide) (fun c_x => absurd c_x (by decide)) (fun _ => ?_)
          refine lv_aload_n hx hb dX0_countRepeated_10 rfl (lv_at hl 2 rfl) ?_
          refine lv_iload_n hx hb dX0_countRepeated_11 rfl (lv_at hl 0 rfl) ?_
          refine rcVi (as := [.int (5 : Int32)]) (rest := []) (cl := RX0) C (c_X0_isRepeated l G a S (5 : Int32) (vp_in_lit 5)) F_X0_isRepeated rfl bw278 bw280 bw15 hE hP (rv2 hE.K hP (q0 := 0) rfl) hl.1 dX0_countRepeated_12 ⟨Nat.le_of_ble_eq_true rfl, Nat.le_of_ble_eq_true rfl⟩ rfl (Nat.le_of_ble_eq_true rfl) ⟨Nat.zero_le _, Nat.zero_le _⟩ ?_
          refine lv_if_eq (tgt := 21) hx hb dX0_countRepeated_15 (by decide) (fun c_28 => ?_) (fun c_28 => ?_)
          · refine lv_iinc (v := (6 : Int32)) (lv' := [(2, .int (6 : Int32)), (1, .int (3 : Int32)), (0, .ref (a 0))]) hx hb dX0_countRepeated_21 hl (k := 0) rfl (by first | rfl | decide) (Nat.le_of_ble_eq_true rfl) rfl (fun ls hl => ?_)
            refine lv_goto (tgt := 4) hx hb dX0_countRepeated_24 (by decide) ?_
            refine lv_iload_n hx hb dX0_countRepeated_4 rfl (lv_at hl 0 rfl) ?_
            refine lv_bipush (v := (6 : Int32)) hx hb dX0_countRepeated_5 (by decide) ?_
            refine lv_icmp_ge (tgt := 27) hx hb dX0_countRepeated_7 (by decide) (fun _ => ?_) (fun c_x => absurd (show (6 : Int32) ≤ (6 : Int32) from by decide) c_x)
            refine lv_iload_n hx hb dX0_countRepeated_27 rfl (lv_at hl 1 rfl) ?_
            exact re_i hx hb hr hk dX0_countRepeated_28 (ei (Eq.trans (if_neg c_1) (Eq.trans (if_neg c_17) (Eq.trans (if_pos c_25) (Eq.trans (if_neg c_26) (if_pos c_28))))))
          · refine lv_iinc (v := (4 : Int32)) (lv' := [(1, .int (4 : Int32)), (2, .int (5 : Int32)), (0, .ref (a 0))]) hx hb dX0_countRepeated_18 hl (k := 1) rfl (by first | rfl | decide) (Nat.le_of_ble_eq_true rfl) rfl (fun ls hl => ?_)
            refine lv_iinc (v := (6 : Int32)) (lv' := [(2, .int (6 : Int32)), (1, .int (4 : Int32)), (0, .ref (a 0))]) hx hb dX0_countRepeated_21 hl (k := 1) rfl (by first | rfl | decide) (Nat.le_of_ble_eq_true rfl) rfl (fun ls hl => ?_)
            refine lv_goto (tgt := 4) hx hb dX0_countRepeated_24 (by decide) ?_
            refine lv_iload_n hx hb dX0_countRepeated_4 rfl (lv_at hl 0 rfl) ?_
            refine lv_bipush (v := (6 : Int32)) hx hb dX0_countRepeated_5 (by decide) ?_
            refine lv_icmp_ge (tgt := 27) hx hb dX0_countRepeated_7 (by decide) (fun _ => ?_) (fun c_x => absurd (show (6 : Int32) ≤ (6 : Int32) from by decide) c_x)
            refine lv_iload_n hx hb dX0_countRepeated_27 rfl (lv_at hl 1 rfl) ?_
            exact re_i hx hb hr hk dX0_countRepeated_28 (ei (Eq.trans (if_neg c_1) (Eq.trans (if_neg c_17) (Eq.trans (if_pos c_25) (Eq.trans (if_neg c_26) (if_neg c_28))))))
      · refine lv_iinc (v := (3 : Int32)) (lv' := [(1, .int (3 : Int32)), (2, .int (3 : Int32)), (0, .ref (a 0))]) hx hb dX0_countRepeated_18 hl (k := 1) rfl (by first | rfl | decide) (Nat.le_of_ble_eq_true rfl) rfl (fun ls hl => ?_)
        refine lv_iinc (v := (4 : Int32)) (lv' := [(2, .int (4 : Int32)), (1, .int (3 : Int32)), (0, .ref (a 0))]) hx hb dX0_countRepeated_21 hl (k := 1) rfl (by first | rfl | decide) (Nat.le_of_ble_eq_true rfl) rfl (fun ls hl => ?_)
        refine lv_goto (tgt := 4) hx hb dX0_countRepeated_24 (by decide) ?_
        refine lv_iload_n hx hb dX0_countRepeated_4 rfl (lv_at hl 0 rfl) ?_
        refine lv_bipush (v := (6 : Int32)) hx hb dX0_countRepeated_5 (by decide) ?_
        refine lv_icmp_ge (tgt := 27) hx hb dX0_countRepeated_7 (by decide) (fun c_x => absurd c_x (by decide)) (fun _ => ?_)
        refine lv_aload_n hx hb dX0_countRepeated_10 rfl (lv_at hl 2 rfl) ?_
        refine lv_iload_n hx hb dX0_countRepeated_11 rfl (lv_at hl 0 rfl) ?_
        refine rcVi (as := [.int (4 : Int32)]) (rest := []) (cl := RX0) C (c_X0_isRepeated l G a S (4 : Int32) (vp_in_lit 4)) F_X0_isRepeated rfl bw278 bw280 bw15 hE hP (rv2 hE.K hP (q0 := 0) rfl) hl.1 dX0_countRepeated_12 ⟨Nat.le_of_ble_eq_true rfl, Nat.le_of_ble_eq_true rfl⟩ rfl (Nat.le_of_ble_eq_true rfl) ⟨Nat.zero_le _, Nat.zero_le _⟩ ?_
        refine lv_if_eq (tgt := 21) hx hb dX0_countRepeated_15 (by decide) (fun c_29 => ?_) (fun c_29 => ?_)
        · refine lv_iinc (v := (5 : Int32)) (lv' := [(2, .int (5 : Int32)), (1, .int (3 : Int32)), (0, .ref (a 0))]) hx hb dX0_countRepeated_21 hl (k := 0) rfl (by first | rfl | decide) (Nat.le_of_ble_eq_true rfl) rfl (fun ls hl => ?_)
          refine lv_goto (tgt := 4) hx hb dX0_countRepeated_24 (by decide) ?_
          refine lv_iload_n hx hb dX0_countRepeated_4 rfl (lv_at hl 0 rfl) ?_
          refine lv_bipush (v := (6 : Int32)) hx hb dX0_countRepeated_5 (by decide) ?_
          refine lv_icmp_ge (tgt := 27) hx hb dX0_countRepeated_7 (by decide) (fun c_x => absurd c_x (by decide)) (fun _ => ?_)
          refine lv_aload_n hx hb dX0_countRepeated_10 rfl (lv_at hl 2 rfl) ?_
          refine lv_iload_n hx hb dX0_countRepeated_11 rfl (lv_at hl 0 rfl) ?_
          refine rcVi (as := [.int (5 : Int32)]) (rest := []) (cl := RX0) C (c_X0_isRepeated l G a S (5 : Int32) (vp_in_lit 5)) F_X0_isRepeated rfl bw278 bw280 bw15 hE hP (rv2 hE.K hP (q0 := 0) rfl) hl.1 dX0_countRepeated_12 ⟨Nat.le_of_ble_eq_true rfl, Nat.le_of_ble_eq_true rfl⟩ rfl (Nat.le_of_ble_eq_true rfl) ⟨Nat.zero_le _, Nat.zero_le _⟩ ?_
          refine lv_if_eq (tgt := 21) hx hb dX0_countRepeated_15 (by decide) (fun c_30 => ?_) (fun c_30 => ?_)
          · refine lv_iinc (v := (6 : Int32)) (lv' := [(2, .int (6 : Int32)), (1, .int (3 : Int32)), (0, .ref (a 0))]) hx hb dX0_countRepeated_21 hl (k := 0) rfl (by first | rfl | decide) (Nat.le_of_ble_eq_true rfl) rfl (fun ls hl => ?_)
            refine lv_goto (tgt := 4) hx hb dX0_countRepeated_24 (by decide) ?_
            refine lv_iload_n hx hb dX0_countRepeated_4 rfl (lv_at hl 0 rfl) ?_
            refine lv_bipush (v := (6 : Int32)) hx hb dX0_countRepeated_5 (by decide) ?_
            refine lv_icmp_ge (tgt := 27) hx hb dX0_countRepeated_7 (by decide) (fun _ => ?_) (fun c_x => absurd (show (6 : Int32) ≤ (6 : Int32) from by decide) c_x)
            refine lv_iload_n hx hb dX0_countRepeated_27 rfl (lv_at hl 1 rfl) ?_
            exact re_i hx hb hr hk dX0_countRepeated_28 (ei (Eq.trans (if_neg c_1) (Eq.trans (if_neg c_17) (Eq.trans (if_neg c_25) (Eq.trans (if_pos c_29) (if_pos c_30))))))
          · refine lv_iinc (v := (4 : Int32)) (lv' := [(1, .int (4 : Int32)), (2, .int (5 : Int32)), (0, .ref (a 0))]) hx hb dX0_countRepeated_18 hl (k := 1) rfl (by first | rfl | decide) (Nat.le_of_ble_eq_true rfl) rfl (fun ls hl => ?_)
            refine lv_iinc (v := (6 : Int32)) (lv' := [(2, .int (6 : Int32)), (1, .int (4 : Int32)), (0, .ref (a 0))]) hx hb dX0_countRepeated_21 hl (k := 1) rfl (by first | rfl | decide) (Nat.le_of_ble_eq_true rfl) rfl (fun ls hl => ?_)
            refine lv_goto (tgt := 4) hx hb dX0_countRepeated_24 (by decide) ?_
            refine lv_iload_n hx hb dX0_countRepeated_4 rfl (lv_at hl 0 rfl) ?_
            refine lv_bipush (v := (6 : Int32)) hx hb dX0_countRepeated_5 (by decide) ?_
            refine lv_icmp_ge (tgt := 27) hx hb dX0_countRepeated_7 (by decide) (fun _ => ?_) (fun c_x => absurd (show (6 : Int32) ≤ (6 : Int32) from by decide) c_x)
            refine lv_iload_n hx hb dX0_countRepeated_27 rfl (lv_at hl 1 rfl) ?_
            exact re_i hx hb hr hk dX0_countRepeated_28 (ei (Eq.trans (if_neg c_1) (Eq.trans (if_neg c_17) (Eq.trans (if_neg c_25) (Eq.trans (if_pos c_29) (if_neg c_30))))))
        · refine lv_iinc (v := (4 : Int32)) (lv' := [(1, .int (4 : Int32)), (2, .int (4 : Int32)), (0, .ref (a 0))]) hx hb dX0_countRepeated_18 hl (k := 1) rfl (by first | rfl | decide) (Nat.le_of_ble_eq_true rfl) rfl (fun ls hl => ?_)
          refine lv_iinc (v := (5 : Int32)) (lv' := [(2, .int (5 : Int32)), (1, .int (4 : Int32)), (0, .ref (a 0))]) hx hb dX0_countRepeated_21 hl (k := 1) rfl (by first | rfl | decide) (Nat.le_of_ble_eq_true rfl) rfl (fun ls hl => ?_)
          refine lv_goto (tgt := 4) hx hb dX0_countRepeated_24 (by decide) ?_
          refine lv_iload_n hx hb dX0_countRepeated_4 rfl (lv_at hl 0 rfl) ?_
          refine lv_bipush (v := (6 : Int32)) hx hb dX0_countRepeated_5 (by decide) ?_
          refine lv_icmp_ge (tgt := 27) hx hb dX0_countRepeated_7 (by decide) (fun c_x => absurd c_x (by decide)) (fun _ => ?_)
          refine lv_aload_n hx hb dX0_countRepeated_10 rfl (lv_at hl 2 rfl) ?_
          refine lv_iload_n hx hb dX0_countRepeated_11 rfl (lv_at hl 0 rfl) ?_
          refine rcVi (as := [.int (5 : Int32)]) (rest := []) (cl := RX0) C (c_X0_isRepeated l G a S (5 : Int32) (vp_in_lit 5)) F_X0_isRepeated rfl bw278 bw280 bw15 hE hP (rv2 hE.K hP (q0 := 0) rfl) hl.1 dX0_countRepeated_12 ⟨Nat.le_of_ble_eq_true rfl, Nat.le_of_ble_eq_true rfl⟩ rfl (Nat.le_of_ble_eq_true rfl) ⟨Nat.zero_le _, Nat.zero_le _⟩ ?_
          refine lv_if_eq (tgt := 21) hx hb dX0_countRepeated_15 (by decide) (fun c_31 => ?_) (fun c_31 => ?_)
          · refine lv_iinc (v := (6 : Int32)) (lv' := [(2, .int (6 : Int32)), (1, .int (4 : Int32)), (0, .ref (a 0))]) hx hb dX0_countRepeated_21 hl (k := 0) rfl (by first | rfl | decide) (Nat.le_of_ble_eq_true rfl) rfl (fun ls hl => ?_)
            refine lv_goto (tgt := 4) hx hb dX0_countRepeated_24 (by decide) ?_
            refine lv_iload_n hx hb dX0_countRepeated_4 rfl (lv_at hl 0 rfl) ?_
            refine lv_bipush (v := (6 : Int32)) hx hb dX0_countRepeated_5 (by decide) ?_
            refine lv_icmp_ge (tgt := 27) hx hb dX0_countRepeated_7 (by decide) (fun _ => ?_) (fun c_x => absurd (show (6 : Int32) ≤ (6 : Int32) from by decide) c_x)
            refine lv_iload_n hx hb dX0_countRepeated_27 rfl (lv_at hl 1 rfl) ?_
            exact re_i hx hb hr hk dX0_countRepeated_28 (ei (Eq.trans (if_neg c_1) (Eq.trans (if_neg c_17) (Eq.trans (if_neg c_25) (Eq.trans (if_neg c_29) (if_pos c_31))))))
          · refine lv_iinc (v := (5 : Int32)) (lv' := [(1, .int (5 : Int32)), (2, .int (5 : Int32)), (0, .ref (a 0))]) hx hb dX0_countRepeated_18 hl (k := 1) rfl (by first | rfl | decide) (Nat.le_of_ble_eq_true rfl) rfl (fun ls hl => ?_)
            refine lv_iinc (v := (6 : Int32)) (lv' := [(2, .int (6 : Int32)), (1, .int (5 : Int32)), (0, .ref (a 0))]) hx hb dX0_countRepeated_21 hl (k := 1) rfl (by first | rfl | decide) (Nat.le_of_ble_eq_true rfl) rfl (fun ls hl => ?_)
            refine lv_goto (tgt := 4) hx hb dX0_countRepeated_24 (by decide) ?_
            refine lv_iload_n hx hb dX0_countRepeated_4 rfl (lv_at hl 0 rfl) ?_
            refine lv_bipush (v := (6 : Int32)) hx hb dX0_countRepeated_5 (by decide) ?_
            refine lv_icmp_ge (tgt := 27) hx hb dX0_countRepeated_7 (by decide) (fun _ => ?_) (fun c_x => absurd (show (6 : Int32) ≤ (6 : Int32) from by decide) c_x)
            refine lv_iload_n hx hb dX0_countRepeated_27 rfl (lv_at hl 1 rfl) ?_
            exact re_i hx hb hr hk dX0_countRepeated_28 (ei (Eq.trans (if_neg c_1) (Eq.trans (if_neg c_17) (Eq.trans (if_neg c_25) (Eq.trans (if_neg c_29) (if_neg c_31))))))

