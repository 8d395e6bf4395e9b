set_option maxRecDepth 100000 in
set_option maxHeartbeats 4000000 in
theorem c_X0_isSound (l : Launch) (G : GT) (a : Nat → Nat) (S : SX) : RO l G yX0_isSound cX0_isSound 3 (some .boolean) 6 [.ref (a 0)] (wX G a S) (some (.int (fX0_isSound S))) := by
  refine RO.ofW (own := RX0) rfl (by decide +kernel) (Nat.le_of_ble_eq_true rfl) ?_
  intro p e s m below meth c C hr hk hE hP ls hl
  have hx := C.1
  have hb := C.2.1
  have hown := C.2.2.2.1
  have hw := C.2.2.2.2
  have hl : lv_has ls 3 [(0, .ref (a 0))] := hl
  refine lv_iconst (v := (0 : Int32)) hx hb dX0_isSound_0 (by decide) ?_
  refine lv_istore_n (lv' := [(1, .int (0 : Int32)), (0, .ref (a 0))]) hx hb dX0_isSound_1 rfl hl (Nat.le_of_ble_eq_true rfl) rfl (fun ls hl => ?_)
  refine lv_iload_n hx hb dX0_isSound_2 rfl (lv_at hl 0 rfl) ?_
  refine lv_bipush (v := (6 : Int32)) hx hb dX0_isSound_3 (by decide) ?_
  refine lv_icmp_ge (tgt := 48) hx hb dX0_isSound_5 (by decide) (fun c_x => absurd c_x (by decide)) (fun _ => ?_)
  refine lv_aload_n hx hb dX0_isSound_8 rfl (lv_at hl 1 rfl) ?_
  refine lv_iload_n hx hb dX0_isSound_9 rfl (lv_at hl 0 rfl) ?_
  refine rcVi (as := [.int (0 : Int32)]) (rest := []) (cl := RX0) C (c_X0_isSoundAlone l G a S (0 : Int32) (vp_in_lit 0)) F_X0_isSoundAlone rfl bw141 bw143 bw0 hE hP (rv2 hE.K hP (q0 := 0) rfl) hl.1 dX0_isSound_10 ⟨Nat.le_of_ble_eq_true rfl, Nat.le_of_ble_eq_true rfl⟩ rfl (Nat.le_of_ble_eq_true rfl) ⟨Nat.zero_le _, Nat.zero_le _⟩ ?_
  refine lv_if_ne (tgt := 18) hx hb dX0_isSound_13 (by decide) (fun c_1 => ?_) (fun c_1 => ?_)
  · refine lv_iconst (v := (0 : Int32)) hx hb dX0_isSound_18 (by decide) ?_
    refine lv_istore_n (lv' := [(2, .int (0 : Int32)), (1, .int (0 : Int32)), (0, .ref (a 0))]) hx hb dX0_isSound_19 rfl hl (Nat.le_of_ble_eq_true rfl) rfl (fun ls hl => ?_)
    refine lv_iload_n hx hb dX0_isSound_20 rfl (lv_at hl 0 rfl) ?_
    refine lv_iload_n hx hb dX0_isSound_21 rfl (lv_at hl 1 rfl) ?_
    refine lv_icmp_ge (tgt := 42) hx hb dX0_isSound_22 (by decide) (fun _ => ?_) (fun c_x => absurd (show (0 : Int32) ≤ (0 : Int32) from by decide) c_x)
    refine lv_iinc (v := (1 : Int32)) (lv' := [(1, .int (1 : Int32)), (2, .int (0 : Int32)), (0, .ref (a 0))]) hx hb dX0_isSound_42 hl (k := 1) rfl (by first | rfl | decide) (Nat.le_of_ble_eq_true rfl) rfl (fun ls hl => ?_)
    refine lv_goto (tgt := 2) hx hb dX0_isSound_45 (by decide) ?_
    refine lv_iload_n hx hb dX0_isSound_2 rfl (lv_at hl 0 rfl) ?_
    refine lv_bipush (v := (6 : Int32)) hx hb dX0_isSound_3 (by decide) ?_
    refine lv_icmp_ge (tgt := 48) hx hb dX0_isSound_5 (by decide) (fun c_x => absurd c_x (by decide)) (fun _ => ?_)
    refine lv_aload_n hx hb dX0_isSound_8 rfl (lv_at hl 2 rfl) ?_
    refine lv_iload_n hx hb dX0_isSound_9 rfl (lv_at hl 0 rfl) ?_
    refine rcVi (as := [.int (1 : Int32)]) (rest := []) (cl := RX0) C (c_X0_isSoundAlone l G a S (1 : Int32) (vp_in_lit 1)) F_X0_isSoundAlone rfl bw141 bw143 bw0 hE hP (rv2 hE.K hP (q0 := 0) rfl) hl.1 dX0_isSound_10 ⟨Nat.le_of_ble_eq_true rfl, Nat.le_of_ble_eq_true rfl⟩ rfl (Nat.le_of_ble_eq_true rfl) ⟨Nat.zero_le _, Nat.zero_le _⟩ ?_
    refine lv_if_ne (tgt := 18) hx hb dX0_isSound_13 (by decide) (fun c_2 => ?_) (fun c_2 => ?_)
    · refine lv_iconst (v := (0 : Int32)) hx hb dX0_isSound_18 (by decide) ?_
      refine lv_istore_n (lv' := [(2, .int (0 : Int32)), (1, .int (1 : Int32)), (0, .ref (a 0))]) hx hb dX0_isSound_19 rfl hl (Nat.le_of_ble_eq_true rfl) rfl (fun ls hl => ?_)
      refine lv_iload_n hx hb dX0_isSound_20 rfl (lv_at hl 0 rfl) ?_
      refine lv_iload_n hx hb dX0_isSound_21 rfl (lv_at hl 1 rfl) ?_
      refine lv_icmp_ge (tgt := 42) hx hb dX0_isSound_22 (by decide) (fun c_x => absurd c_x (by decide)) (fun _ => ?_)
      refine lv_aload_n hx hb dX0_isSound_25 rfl (lv_at hl 2 rfl) ?_
      refine lv_iload_n hx hb dX0_isSound_26 rfl (lv_at hl 1 rfl) ?_
      refine lv_iload_n hx hb dX0_isSound_27 rfl (lv_at hl 0 rfl) ?_
      refine rcVi (as := [.int (1 : Int32), .int (0 : Int32)]) (rest := []) (cl := RX0) C (c_X0_isSoundPair l G a S (1 : Int32) (0 : Int32) (vp_in_lit 1) (vp_in_lit 0)) F_X0_isSoundPair rfl bw232 bw234 bw8 hE hP (rv2 hE.K hP (q0 := 0) rfl) hl.1 dX0_isSound_28 ⟨Nat.le_of_ble_eq_true rfl, Nat.le_of_ble_eq_true rfl⟩ rfl (Nat.le_of_ble_eq_true rfl) ⟨Nat.zero_le _, Nat.zero_le _⟩ ?_
      refine lv_if_ne (tgt := 36) hx hb dX0_isSound_31 (by decide) (fun c_3 => ?_) (fun c_3 => ?_)
      · refine lv_iinc (v := (1 : Int32)) (lv' := [(2, .int (1 : Int32)), (1, .int (1 : Int32)), (0, .ref (a 0))]) hx hb dX0_isSound_36 hl (k := 0) rfl (by first | rfl | decide) (Nat.le_of_ble_eq_true rfl) rfl (fun ls hl => ?_)
        refine lv_goto (tgt := 20) hx hb dX0_isSound_39 (by decide) ?_
        refine lv_iload_n hx hb dX0_isSound_20 rfl (lv_at hl 0 rfl) ?_
        refine lv_iload_n hx hb dX0_isSound_21 rfl (lv_at hl 1 rfl) ?_
        refine lv_icmp_ge (tgt := 42) hx hb dX0_isSound_22 (by decide) (fun _ => ?_) (fun c_x => absurd (show (1 : Int32) ≤ (1 : Int32) from by decide) c_x)
        refine lv_iinc (v := (2 : Int32)) (lv' := [(1, .int (2 : Int32)), (2, .int (1 : Int32)), (0, .ref (a 0))]) hx hb dX0_isSound_42 hl (k := 1) rfl (by first | rfl | decide) (Nat.le_of_ble_eq_true rfl) rfl (fun ls hl => ?_)
        refine lv_goto (tgt := 2) hx hb dX0_isSound_45 (by decide) ?_
        refine lv_iload_n hx hb dX0_isSound_2 rfl (lv_at hl 0 rfl) ?_
        refine lv_bipush (v := (6 : Int32)) hx hb dX0_isSound_3 (by decide) ?_
        refine lv_icmp_ge (tgt := 48) hx hb dX0_isSound_5 (by decide) (fun c_x => absurd c_x (by decide)) (fun _ => ?_)
        refine lv_aload_n hx hb dX0_isSound_8 rfl (lv_at hl 2 rfl) ?_
        refine lv_iload_n hx hb dX0_isSound_9 rfl (lv_at hl 0 rfl) ?_
        refine rcVi (as := [.int (2 : Int32)]) (rest := []) (cl := RX0) C (c_X0_isSoundAlone l G a S (2 : Int32) (vp_in_lit 2)) F_X0_isSoundAlone rfl bw141 bw143 bw0 hE hP (rv2 hE.K hP (q0 := 0) rfl) hl.1 dX0_isSound_10 ⟨Nat.le_of_ble_eq_true rfl, Nat.le_of_ble_eq_true rfl⟩ rfl (Nat.le_of_ble_eq_true rfl) ⟨Nat.zero_le _, Nat.zero_le _⟩ ?_
        refine lv_if_ne (tgt := 18) hx hb dX0_isSound_13 (by decide) (fun c_4 => ?_) (fun c_4 => ?_)
        · refine lv_iconst (v := (0 : Int32)) hx hb dX0_isSound_18 (by decide) ?_
          refine lv_istore_n (lv' := [(2, .int (0 : Int32)), (1, .int (2 : Int32)), (0, .ref (a 0))]) hx hb dX0_isSound_19 rfl hl (Nat.le_of_ble_eq_true rfl) rfl (fun ls hl => ?_)
          refine lv_iload_n hx hb dX0_isSound_20 rfl (lv_at hl 0 rfl) ?_
          refine lv_iload_n hx hb dX0_isSound_21 rfl (lv_at hl 1 rfl) ?_
          refine lv_icmp_ge (tgt := 42) hx hb dX0_isSound_22 (by decide) (fun c_x => absurd c_x (by decide)) (fun _ => ?_)
          refine lv_aload_n hx hb dX0_isSound_25 rfl (lv_at hl 2 rfl) ?_
          refine lv_iload_n hx hb dX0_isSound_26 rfl (lv_at hl 1 rfl) ?_
          refine lv_iload_n hx hb dX0_isSound_27 rfl (lv_at hl 0 rfl) ?_
          refine rcVi (as := [.int (2 : Int32), .int (0 : Int32)]) (rest := []) (cl := RX0) C (c_X0_isSoundPair l G a S (2 : Int32) (0 : Int32) (vp_in_lit 2) (vp_in_lit 0)) F_X0_isSoundPair rfl bw232 bw234 bw8 hE hP (rv2 hE.K hP (q0 := 0) rfl) hl.1 dX0_isSound_28 ⟨Nat.le_of_ble_eq_true rfl, Nat.le_of_ble_eq_true rfl⟩ rfl (Nat.le_of_ble_eq_true rfl) ⟨Nat.zero_le _, Nat.zero_le _⟩ ?_
          refine lv_if_ne (tgt := 36) hx hb dX0_isSound_31 (by decide) (fun c_5 => ?_) (fun c_5 => ?_)
          · refine lv_iinc (v := (1 : Int32)) (lv' := [(2, .int (1 : Int32)), (1, .int (2 : Int32)), (0, .ref (a 0))]) hx hb dX0_isSound_36 hl (k := 0) rfl (by first | rfl | decide) (Nat.le_of_ble_eq_true rfl) rfl (fun ls hl => ?_)
            refine lv_goto (tgt := 20) hx hb dX0_isSound_39 (by decide) ?_
            refine lv_iload_n hx hb dX0_isSound_20 rfl (lv_at hl 0 rfl) ?_
            refine lv_iload_n hx hb dX0_isSound_21 rfl (lv_at hl 1 rfl) ?_
            refine lv_icmp_ge (tgt := 42) hx hb dX0_isSound_22 (by decide) (fun c_x => absurd c_x (by decide)) (fun _ => ?_)
            refine lv_aload_n hx hb dX0_isSound_25 rfl (lv_at hl 2 rfl) ?_
            refine lv_iload_n hx hb dX0_isSound_26 rfl (lv_at hl 1 rfl) ?_
            refine lv_iload_n hx hb dX0_isSound_27 rfl (lv_at hl 0 rfl) ?_
            refine rcVi (as := [.int (2 : Int32), .int (1 : Int32)]) (rest := []) (cl := RX0) C (c_X0_isSoundPair l G a S (2 : Int32) (1 : Int32) (vp_in_lit 2) (vp_in_lit 1)) F_X0_isSoundPair rfl bw232 bw234 bw8 hE hP (rv2 hE.K hP (q0 := 0) rfl) hl.1 dX0_isSound_28 ⟨Nat.le_of_ble_eq_true rfl, Nat.le_of_ble_eq_true rfl⟩ rfl (Nat.le_of_ble_eq_true rfl) ⟨Nat.zero_le _, Nat.zero_le _⟩ ?_
            refine lv_if_ne (tgt := 36) hx hb dX0_isSound_31 (by decide) (fun c_6 => ?_) (fun c_6 => ?_)
            · refine lv_iinc (v := (2 : Int32)) (lv' := [(2, .int (2 : Int32)), (1, .int (2 : Int32)), (0, .ref (a 0))]) hx hb dX0_isSound_36 hl (k := 0) rfl (by first | rfl | decide) (Nat.le_of_ble_eq_true rfl) rfl (fun ls hl => ?_)
              refine lv_goto (tgt := 20) hx hb dX0_isSound_39 (by decide) ?_
              refine lv_iload_n hx hb dX0_isSound_20 rfl (lv_at hl 0 rfl) ?_
              refine lv_iload_n hx hb dX0_isSound_21 rfl (lv_at hl 1 rfl) ?_
              refine lv_icmp_ge (tgt := 42) hx hb dX0_isSound_22 (by decide) (fun _ => ?_) (fun c_x => absurd (show (2 : Int32) ≤ (2 : Int32) from by decide) c_x)
              refine lv_iinc (v := (3 : Int32)) (lv' := [(1, .int (3 : Int32)), (2, .int (2 : Int32)), (0, .ref (a 0))]) hx hb dX0_isSound_42 hl (k := 1) rfl (by first | rfl | decide) (Nat.le_of_ble_eq_true rfl) rfl (fun ls hl => ?_)
              refine lv_goto (tgt := 2) hx hb dX0_isSound_45 (by decide) ?_
              refine lv_iload_n hx hb dX0_isSound_2 rfl (lv_at hl 0 rfl) ?_
              refine lv_bipush (v := (6 : Int32)) hx hb dX0_isSound_3 (by decide) ?_
              refine lv_icmp_ge (tgt := 48) hx hb dX0_isSound_5 (by decide) (fun c_x => absurd c_x (by decide)) (fun _ => ?_)
              refine lv_aload_n hx hb dX0_isSound_8 rfl (lv_at hl 2 rfl) ?_
              refine lv_iload_n hx hb dX0_isSound_9 rfl (lv_at hl 0 rfl) ?_
              refine rcVi (as := [.int (3 : Int32)]) (rest := []) (cl := RX0) C (c_X0_isSoundAlone l G a S (3 : Int32) (vp_in_lit 3)) F_X0_isSoundAlone rfl bw141 bw143 bw0 hE hP (rv2 hE.K hP (q0 := 0) rfl) hl.1 dX0_isSound_10 ⟨Nat.le_of_ble_eq_true rfl, Nat.le_of_ble_eq_true rfl⟩ rfl (Nat.le_of_ble_eq_true rfl) ⟨Nat.zero_le _, Nat.zero_le _⟩ ?_
              refine lv_if_ne (tgt := 18) hx hb dX0_isSound_13 (by decide) (fun c_7 => ?_) (fun c_7 => ?_)
              · refine lv_iconst (v := (0 : Int32)) hx hb dX0_isSound_18 (by decide) ?_
                refine lv_istore_n (lv' := [(2, .int (0 : Int32)), (1, .int (3 : Int32)), (0, .ref (a 0))]) hx hb dX0_isSound_19 rfl hl (Nat.le_of_ble_eq_true rfl) rfl (fun ls hl => ?_)
                refine lv_iload_n hx hb dX0_isSound_20 rfl (lv_at hl 0 rfl) ?_
                refine lv_iload_n hx hb dX0_isSound_21 rfl (lv_at hl 1 rfl) ?_
                refine lv_icmp_ge (tgt := 42) hx hb dX0_isSound_22 (by decide) (fun c_x => absurd c_x (by decide)) (fun _ => ?_)
                refine lv_aload_n hx hb dX0_isSound_25 rfl (lv_at hl 2 rfl) ?_
                refine lv_iload_n hx hb dX0_isSound_26 rfl (lv_at hl 1 rfl) ?_
                refine lv_iload_n hx hb dX0_isSound_27 rfl (lv_at hl 0 rfl) ?_
                refine rcVi (as := [.int (3 : Int32), .int (0 : Int32)]) (rest := []) (cl := RX0) C (c_X0_isSoundPair l G a S (3 : Int32) (0 : Int32) (vp_in_lit 3) (vp_in_lit 0)) F_X0_isSoundPair rfl bw232 bw234 bw8 hE hP (rv2 hE.K hP (q0 := 0) rfl) hl.1 dX0_isSound_28 ⟨Nat.le_of_ble_eq_true rfl, Nat.le_of_ble_eq_true rfl⟩ rfl (Nat.le_of_ble_eq_true rfl) ⟨Nat.zero_le _, Nat.zero_le _⟩ ?_
                refine lv_if_ne (tgt := 36) hx hb dX0_isSound_31 (by decide) (fun c_8 => ?_) (fun c_8 => ?_)
                · refine lv_iinc (v := (1 : Int32)) (lv' := [(2, .int (1 : Int32)), (1, .int (3 : Int32)), (0, .ref (a 0))]) hx hb dX0_isSound_36 hl (k := 0) rfl (by first | rfl | decide) (Nat.le_of_ble_eq_true rfl) rfl (fun ls hl => ?_)
                  refine lv_goto (tgt := 20) hx hb dX0_isSound_39 (by decide) ?_
                  refine lv_iload_n hx hb dX0_isSound_20 rfl (lv_at hl 0 rfl) ?_
                  refine lv_iload_n hx hb dX0_isSound_21 rfl (lv_at hl 1 rfl) ?_
                  refine lv_icmp_ge (tgt := 42) hx hb dX0_isSound_22 (by decide) (fun c_x => absurd c_x (by decide)) (fun _ => ?_)
                  refine lv_aload_n hx hb dX0_isSound_25 rfl (lv_at hl 2 rfl) ?_
                  refine lv_iload_n hx hb dX0_isSound_26 rfl (lv_at hl 1 rfl) ?_
                  refine lv_iload_n hx hb dX0_isSound_27 rfl (lv_at hl 0 rfl) ?_
                  refine rcVi (as := [.int (3 : Int32), .int (1 : Int32)]) (rest := []) (cl := RX0) C (c_X0_isSoundPair l G a S (3 : Int32) (1 : Int32) (vp_in_lit 3) (vp_in_lit 1)) F_X0_isSoundPair rfl bw232 bw234 bw8 hE hP (rv2 hE.K hP (q0 := 0) rfl) hl.1 dX0_isSound_28 ⟨Nat.le_of_ble_eq_true rfl, Nat.le_of_ble_eq_true rfl⟩ rfl (Nat.le_of_ble_eq_true rfl) ⟨Nat.zero_le _, Nat.zero_le _⟩ ?_
                  refine lv_if_ne (tgt := 36) hx hb dX0_isSound_31 (by decide) (fun c_9 => ?_) (fun c_9 => ?_)
                  · refine lv_iinc (v := (2 : Int32)) (lv' := [(2, .int (2 : Int32)), (1, .int (3 : Int32)), (0, .ref (a 0))]) hx hb dX0_isSound_36 hl (k := 0) rfl (by first | rfl | decide) (Nat.le_of_ble_eq_true rfl) rfl (fun ls hl => ?_)
                    refine lv_goto (tgt := 20) hx hb dX0_isSound_39 (by decide) ?_
                    refine lv_iload_n hx hb dX0_isSound_20 rfl (lv_at hl 0 rfl) ?_
                    refine lv_iload_n hx hb dX0_isSound_21 rfl (lv_at hl 1 rfl) ?_
                    refine lv_icmp_ge (tgt := 42) hx hb dX0_isSound_22 (by decide) (fun c_x => absurd c_x (by decide)) (fun _ => ?_)
                    refine lv_aload_n hx hb dX0_isSound_25 rfl (lv_at hl 2 rfl) ?_
                    refine lv_iload_n hx hb dX0_isSound_26 rfl (lv_at hl 1 rfl) ?_
                    refine lv_iload_n hx hb dX0_isSound_27 rfl (lv_at hl 0 rfl) ?_
                    refine rcVi (as := [.int (3 : Int32), .int (2 : Int32)]) (rest := []) (cl := RX0) C (c_X0_isSoundPair l G a S (3 : Int32) (2 : Int32) (vp_in_lit 3) (vp_in_lit 2)) F_X0_isSoundPair rfl bw232 bw234 bw8 hE hP (rv2 hE.K hP (q0 := 0) rfl) hl.1 dX0_isSound_28 ⟨Nat.le_of_ble_eq_true rfl, Nat.le_of_ble_eq_true rfl⟩ rfl (Nat.le_of_ble_eq_true rfl) ⟨Nat.zero_le _, Nat.zero_le _⟩ ?_
                    refine lv_if_ne (tgt := 36) hx hb dX0_isSound_31 (by decide) (fun c_10 => ?_) (fun c_10 => ?_)
                    · refine lv_iinc (v := (3 : Int32)) (lv' := [(2, .int (3 : Int32)), (1, .int (3 : Int32)), (0, .ref (a 0))]) hx hb dX0_isSound_36 hl (k := 0) rfl (by first | rfl | decide) (Nat.le_of_ble_eq_true rfl) rfl (fun ls hl => ?_)
                      refine lv_goto (tgt := 20) hx hb dX0_isSound_39 (by decide) ?_
                      refine lv_iload_n hx hb dX0_isSound_20 rfl (lv_at hl 0 rfl) ?_
                      refine lv_iload_n hx hb dX0_isSound_21 rfl (lv_at hl 1 rfl) ?_
                      refine lv_icmp_ge (tgt := 42) hx hb dX0_isSound_22 (by decide) (fun _ => ?_) (fun c_x => absurd (show (3 : Int32) ≤ (3 : Int32) from by decide) c_x)
                      refine lv_iinc (v := (4 : Int32)) (lv' := [(1, .int (4 : Int32)), (2, .int (3 : Int32)), (0, .ref (a 0))]) hx hb dX0_isSound_42 hl (k := 1) rfl (by first | rfl | decide) (Nat.le_of_ble_eq_true rfl) rfl (fun ls hl => ?_)
                      refine lv_goto (tgt := 2) hx hb dX0_isSound_45 (by decide) ?_
                      refine lv_iload_n hx hb dX0_isSound_2 rfl (lv_at hl 0 rfl) ?_
                      refine lv_bipush (v := (6 : Int32)) hx hb dX0_isSound_3 (by decide) ?_
                      refine lv_icmp_ge (tgt := 48) hx hb dX0_isSound_5 (by decide) (fun c_x => absurd c_x (by decide)) (fun _ => ?_)
                      refine lv_aload_n hx hb dX0_isSound_8 rfl (lv_at hl 2 rfl) ?_
                      refine lv_iload_n hx hb dX0_isSound_9 rfl (lv_at hl 0 rfl) ?_
                      refine rcVi (as := [.int (4 : Int32)]) (rest := []) (cl := RX0) C (c_X0_isSoundAlone l G a S (4 : Int32) (vp_in_lit 4)) F_X0_isSoundAlone rfl bw141 bw143 bw0 hE hP (rv2 hE.K hP (q0 := 0) rfl) hl.1 dX0_isSound_10 ⟨Nat.le_of_ble_eq_true rfl, Nat.le_of_ble_eq_true rfl⟩ rfl (Nat.le_of_ble_eq_true rfl) ⟨Nat.zero_le _, Nat.zero_le _⟩ ?_
                      refine lv_if_ne (tgt := 18) hx hb dX0_isSound_13 (by decide) (fun c_11 => ?_) (fun c_11 => ?_)
                      · refine lv_iconst (v := (0 : Int32)) hx hb dX0_isSound_18 (by decide) ?_
                        refine lv_istore_n (lv' := [(2, .int (0 : Int32)), (1, .int (4 : Int32)), (0, .ref (a 0))]) hx hb dX0_isSound_19 rfl hl (Nat.le_of_ble_eq_true rfl) rfl (fun ls hl => ?_)
                        refine lv_iload_n hx hb dX0_isSound_20 rfl (lv_at hl 0 rfl) ?_
                        refine lv_iload_n hx hb dX0_isSound_21 rfl (lv_at hl 1 rfl) ?_
                        refine lv_icmp_ge (tgt := 42) hx hb dX0_isSound_22 (by decide) (fun c_x => absurd c_x (by decide)) (fun _ => ?_)
                        refine lv_aload_n hx hb dX0_isSound_25 rfl (lv_at hl 2 rfl) ?_
                        refine lv_iload_n hx hb dX0_isSound_26 rfl (lv_at hl 1 rfl) ?_
                        refine lv_iload_n hx hb dX0_isSound_27 rfl (lv_at hl 0 rfl) ?_
                        refine rcVi (as := [.int (4 : Int32), .int (0 : Int32)]) (rest := []) (cl := RX0) C (c_X0_isSoundPair l G a S (4 : Int32) (0 : Int32) (vp_in_lit 4) (vp_in_lit 0)) F_X0_isSoundPair rfl bw232 bw234 bw8 hE hP (rv2 hE.K hP (q0 := 0) rfl) hl.1 dX0_isSound_28 ⟨Nat.le_of_ble_eq_true rfl, Nat.le_of_ble_eq_true rfl⟩ rfl (Nat.le_of_ble_eq_true rfl) ⟨Nat.zero_le _, Nat.zero_le _⟩ ?_
                        refine lv_if_ne (tgt := 36) hx hb dX0_isSound_31 (by decide) (fun c_12 => ?_) (fun c_12 => ?_)
                        · refine lv_iinc (v := (1 : Int32)) (lv' := [(2, .int (1 : Int32)), (1, .int (4 : Int32)), (0, .ref (a 0))]) hx hb dX0_isSound_36 hl (k := 0) rfl (by first | rfl | decide) (Nat.le_of_ble_eq_true rfl) rfl (fun ls hl => ?_)
                          refine lv_goto (tgt := 20) hx hb dX0_isSound_39 (by decide) ?_
                          refine lv_iload_n hx hb dX0_isSound_20 rfl (lv_at hl 0 rfl) ?_
                          refine lv_iload_n hx hb dX0_isSound_21 rfl (lv_at hl 1 rfl) ?_
                          refine lv_icmp_ge (tgt := 42) hx hb dX0_isSound_22 (by decide) (fun c_x => absurd c_x (by decide)) (fun _ => ?_)
                          refine lv_aload_n hx hb dX0_isSound_25 rfl (lv_at hl 2 rfl) ?_
                          refine lv_iload_n hx hb dX0_isSound_26 rfl (lv_at hl 1 rfl) ?_
                          refine lv_iload_n hx hb dX0_isSound_27 rfl (lv_at hl 0 rfl) ?_
                          refine rcVi (as := [.int (4 : Int32), .int (1 : Int32)]) (rest := []) (cl := RX0) C (c_X0_isSoundPair l G a S (4 : Int32) (1 : Int32) (vp_in_lit 4) (vp_in_lit 1)) F_X0_isSoundPair rfl bw232 bw234 bw8 hE hP (rv2 hE.K hP (q0 := 0) rfl) hl.1 dX0_isSound_28 ⟨Nat.le_of_ble_eq_true rfl, Nat.le_of_ble_eq_true rfl⟩ rfl (Nat.le_of_ble_eq_true rfl) ⟨Nat.zero_le _, Nat.zero_le _⟩ ?_
                          refine lv_if_ne (tgt := 36) hx hb dX0_isSound_31 (by decide) (fun c_13 => ?_) (fun c_13 => ?_)
                          · refine lv_iinc (v := (2 : Int32)) (lv' := [(2, .int (2 : Int32)), (1, .int (4 : Int32)), (0, .ref (a 0))]) hx hb dX0_isSound_36 hl (k := 0) rfl (by first | rfl | decide) (Nat.le_of_ble_eq_true rfl) rfl (fun ls hl => ?_)
                            refine lv_goto (tgt := 20) hx hb dX0_isSound_39 (by decide) ?_
                            refine lv_iload_n hx hb dX0_isSound_20 rfl (lv_at hl 0 rfl) ?_
                            refine lv_iload_n hx hb dX0_isSound_21 rfl (lv_at hl 1 rfl) ?_
                            refine lv_icmp_ge (tgt := 42) hx hb dX0_isSound_22 (by decide) (fun c_x => absurd c_x (by decide)) (fun _ => ?_)
                            refine lv_aload_n hx hb dX0_isSound_25 rfl (lv_at hl 2 rfl) ?_
                            refine lv_iload_n hx hb dX0_isSound_26 rfl (lv_at hl 1 rfl) ?_
                            refine lv_iload_n hx hb dX0_isSound_27 rfl (lv_at hl 0 rfl) ?_
                            refine rcVi (as := [.int (4 : Int32), .int (2 : Int32)]) (rest := []) (cl := RX0) C (c_X0_isSoundPair l G a S (4 : Int32) (2 : Int32) (vp_in_lit 4) (vp_in_lit 2)) F_X0_isSoundPair rfl bw232 bw234 bw8 hE hP (rv2 hE.K hP (q0 := 0) rfl) hl.1 dX0_isSound_28 ⟨Nat.le_of_ble_eq_true rfl, Nat.le_of_ble_eq_true rfl⟩ rfl (Nat.le_of_ble_eq_true rfl) ⟨Nat.zero_le _, Nat.zero_le _⟩ ?_
                            refine lv_if_ne (tgt := 36) hx hb dX0_isSound_31 (by decide) (fun c_14 => ?_) (fun c_14 => ?_)
                            · refine lv_iinc (v := (3 : Int32)) (lv' := [(2, .int (3 : Int32)), (1, .int (4 : Int32)), (0, .ref (a 0))]) hx hb dX0_isSound_36 hl (k := 0) rfl (by first | rfl | decide) (Nat.le_of_ble_eq_true rfl) rfl (fun ls hl => ?_)
                              refine lv_goto (tgt := 20) hx hb dX0_isSound_39 (by decide) ?_
                              refine lv_iload_n hx hb dX0_isSound_20 rfl (lv_at hl 0 rfl) ?_
                              refine lv_iload_n hx hb dX0_isSound_21 rfl (lv_at hl 1 rfl) ?_
                              refine lv_icmp_ge (tgt := 42) hx hb dX0_isSound_22 (by decide) (fun c_x => absurd c_x (by decide)) (fun _ => ?_)
                              refine lv_aload_n hx hb dX0_isSound_25 rfl (lv_at hl 2 rfl) ?_
                              refine lv_iload_n hx hb dX0_isSound_26 rfl (lv_at hl 1 rfl) ?_
                              refine lv_iload_n hx hb dX0_isSound_27 rfl (lv_at hl 0 rfl) ?_
                              refine rcVi (as := [.int (4 : Int32), .int (3 : Int32)]) (rest := []) (cl := RX0) C (c_X0_isSoundPair l G a S (4 : Int32) (3 : Int32) (vp_in_lit 4) (vp_in_lit 3)) F_X0_isSoundPair rfl bw232 bw234 bw8 hE hP (rv2 hE.K hP (q0 := 0) rfl) hl.1 dX0_isSound_28 ⟨Nat.le_of_ble_eq_true rfl, Nat.le_of_ble_eq_true rfl⟩ rfl (Nat.le_of_ble_eq_true rfl) ⟨Nat.zero_le _, Nat.zero_le _⟩ ?_
                              refine lv_if_ne (tgt := 36) hx hb dX0_isSound_31 (by decide) (fun c_15 => ?_) (fun c_15 => ?_)
                              · refine lv_iinc (v := (4 : Int32)) (lv' := [(2, .int (4 : Int32)), (1, .int (4 : Int32)), (0, .ref (a 0))]) hx hb dX0_isSound_36 hl (k := 0) rfl (by first | rfl | decide) (Nat.le_of_ble_eq_true rfl) rfl (fun ls hl => ?_)
                                refine lv_goto (tgt := 20) hx hb dX0_isSound_39 (by decide) ?_
                                refine lv_iload_n hx hb dX0_isSound_20 rfl (lv_at hl 0 rfl) ?_
                                refine lv_iload_n hx hb dX0_isSound_21 rfl (lv_at hl 1 rfl) ?_
                                refine lv_icmp_ge (tgt := 42) hx hb dX0_isSound_22 (by decide) (fun _ => ?_) (fun c_x => absurd (show (4 : Int32) ≤ (4 : Int32) from by decide) c_x)
                                refine lv_iinc (v := (5 : Int32)) (lv' := [(1, .int (5 : Int32)), (2, .int (4 : Int32)), (0, .ref (a 0))]) hx hb dX0_isSound_42 hl (k := 1) rfl (by first | rfl | decide) (Nat.le_of_ble_eq_true rfl) rfl (fun ls hl => ?_)
                                refine lv_goto (tgt := 2) hx hb dX0_isSound_45 (by decide) ?_
                                refine lv_iload_n hx hb dX0_isSound_2 rfl (lv_at hl 0 rfl) ?_
                                refine lv_bipush (v := (6 : Int32)) hx hb dX0_isSound_3 (by decide) ?_
                                refine lv_icmp_ge (tgt := 48) hx hb dX0_isSound_5 (by decide) (fun c_x => absurd c_x (by decide)) (fun _ => ?_)
                                refine lv_aload_n hx hb dX0_isSound_8 rfl (lv_at hl 2 rfl) ?_
                                refine lv_iload_n hx hb dX0_isSound_9 rfl (lv_at hl 0 rfl) ?_
                                refine rcVi (as := [.int (5 : Int32)]) (rest := []) (cl := RX0) C (c_X0_isSoundAlone l G a S (5 : Int32) (vp_in_lit 5)) F_X0_isSoundAlone rfl bw141 bw143 bw0 hE hP (rv2 hE.K hP (q0 := 0) rfl) hl.1 dX0_isSound_10 ⟨Nat.le_of_ble_eq_true rfl, Nat.le_of_ble_eq_true rfl⟩ rfl (Nat.le_of_ble_eq_true rfl) ⟨Nat.zero_le _, Nat.zero_le _⟩ ?_
                                refine lv_if_ne (tgt := 18) hx hb dX0_isSound_13 (by decide) (fun c_16 => ?_) (fun c_16 => ?_)
                                · refine lv_iconst (v := (0 : Int32)) hx hb dX0_isSound_18 (by decide) ?_
                                  refine lv_istore_n (lv' := [(2, .int (0 : Int32)), (1, .int (5 : Int32)), (0, .ref (a 0))]) hx hb dX0_isSound_19 rfl hl (Nat.le_of_ble_eq_true rfl) rfl (fun ls hl => ?_)
                                  refine lv_iload_n hx hb dX0_isSound_20 rfl (lv_at hl 0 rfl) ?_
                                  refine lv_iload_n hx hb dX0_isSound_21 rfl (lv_at hl 1 rfl) ?_
                                  refine lv_icmp_ge (tgt := 42) hx hb dX0_isSound_22 (by decide) (fun c_x => absurd c_x (by decide)) (fun _ => ?_)
                                  refine lv_aload_n hx hb dX0_isSound_25 rfl (lv_at hl 2 rfl) ?_
                                  refine lv_iload_n hx hb dX0_isSound_26 rfl (lv_at hl 1 rfl) ?_
                                  refine lv_iload_n hx hb dX0_isSound_27 rfl (lv_at hl 0 rfl) ?_
                                  refine rcVi (as := [.int (5 : Int32), .int (0 : Int32)]) (rest := []) (cl := RX0) C (c_X0_isSoundPair l G a S (5 : Int32) (0 : Int32) (vp_in_lit 5) (vp_in_lit 0)) F_X0_isSoundPair rfl bw232 bw234 bw8 hE hP (rv2 hE.K hP (q0 := 0) rfl) hl.1 dX0_isSound_28 ⟨Nat.le_of_ble_eq_true rfl, Nat.le_of_ble_eq_true rfl⟩ rfl (Nat.le_of_ble_eq_true rfl) ⟨Nat.zero_le _, Nat.zero_le _⟩ ?_
                                  refine lv_if_ne (tgt := 36) hx hb dX0_isSound_31 (by decide) (fun c_17 => ?_) (fun c_17 => ?_)
                                  · refine lv_iinc (v := (1 : Int32)) (lv' := [(2, .int (1 : Int32)), (1, .int (5 : Int32)), (0, .ref (a 0))]) hx hb dX0_isSound_36 hl (k := 0) rfl (by first | rfl | decide) (Nat.le_of_ble_eq_true rfl) rfl (fun ls hl => ?_)
                                    refine lv_goto (tgt := 20) hx hb dX0_isSound_39 (by decide) ?_
                                    refine lv_iload_n hx hb dX0_isSound_20 rfl (lv_at hl 0 rfl) ?_
                                    refine lv_iload_n hx hb dX0_isSound_21 rfl (lv_at hl 1 rfl) ?_
                                    refine lv_icmp_ge (tgt := 42) hx hb dX0_isSound_22 (by decide) (fun c_x => absurd c_x (by decide)) (fun _ => ?_)
                                    refine lv_aload_n hx hb dX0_isSound_25 rfl (lv_at hl 2 rfl) ?_
                                    refine lv_iload_n hx hb dX0_isSound_26 rfl (lv_at hl 1 rfl) ?_
                                    refine lv_iload_n hx hb dX0_isSound_27 rfl (lv_at hl 0 rfl) ?_
                                    refine rcVi (as := [.int (5 : Int32), .int (1 : Int32)]) (rest := []) (cl := RX0) C (c_X0_isSoundPair l G a S (5 : Int32) (1 : Int32) (vp_in_lit 5) (vp_in_lit 1)) F_X0_isSoundPair rfl bw232 bw234 bw8 hE hP (rv2 hE.K hP (q0 := 0) rfl) hl.1 dX0_isSound_28 ⟨Nat.le_of_ble_eq_true rfl, Nat.le_of_ble_eq_true rfl⟩ rfl (Nat.le_of_ble_eq_true rfl) ⟨Nat.zero_le _, Nat.zero_le _⟩ ?_
                                    refine lv_if_ne (tgt := 36) hx hb dX0_isSound_31 (by decide) (fun c_18 => ?_) (fun c_18 => ?_)
                                    · refine lv_iinc (v := (2 : Int32)) (lv' := [(2, .int (2 : Int32)), (1, .int (5 : Int32)), (0, .ref (a 0))]) hx hb dX0_isSound_36 hl (k := 0) rfl (by first | rfl | decide) (Nat.le_of_ble_eq_true rfl) rfl (fun ls hl => ?_)
                                      refine lv_goto (tgt := 20) hx hb dX0_isSound_39 (by decide) ?_
                                      refine lv_iload_n hx hb dX0_isSound_20 rfl (lv_at hl 0 rfl) ?_
                                      refine lv_iload_n hx hb dX0_isSound_21 rfl (lv_at hl 1 rfl) ?_
                                      refine lv_icmp_ge (tgt := 42) hx hb dX0_isSound_22 (by decide) (fun c_x => absurd c_x (by decide)) (fun _ => ?_)
                                      refine lv_aload_n hx hb dX0_isSound_25 rfl (lv_at hl 2 rfl) ?_
                                      refine lv_iload_n hx hb dX0_isSound_26 rfl (lv_at hl 1 rfl) ?_
                                      refine lv_iload_n hx hb dX0_isSound_27 rfl (lv_at hl 0 rfl) ?_
                                      refine rcVi (as := [.int (5 : Int32), .int (2 : Int32)]) (rest := []) (cl := RX0) C (c_X0_isSoundPair l G a S (5 : Int32) (2 : Int32) (vp_in_lit 5) (vp_in_lit 2)) F_X0_isSoundPair rfl bw232 bw234 bw8 hE hP (rv2 hE.K hP (q0 := 0) rfl) hl.1 dX0_isSound_28 ⟨Nat.le_of_ble_eq_true rfl, Nat.le_of_ble_eq_true rfl⟩ rfl (Nat.le_of_ble_eq_true rfl) ⟨Nat.zero_le _, Nat.zero_le _⟩ ?_
                                      refine lv_if_ne (tgt := 36) hx hb dX0_isSound_31 (by decide) (fun c_19 => ?_) (fun c_19 => ?_)
                                      · refine lv_iinc (v := (3 : Int32)) (lv' := [(2, .int (3 : Int32)), (1, .int (5 : Int32)), (0, .ref (a 0))]) hx hb dX0_isSound_36 hl (k := 0) rfl (by first | rfl | decide) (Nat.le_of_ble_eq_true rfl) rfl (fun ls hl => ?_)
                                        refine lv_goto (tgt := 20) hx hb dX0_isSound_39 (by decide) ?_
                                        refine lv_iload_n hx hb dX0_isSound_20 rfl (lv_at hl 0 rfl) ?_
                                        refine lv_iload_n hx hb dX0_isSound_21 rfl (lv_at hl 1 rfl) ?_
                                        refine lv_icmp_ge (tgt := 42) hx hb dX0_isSound_22 (by decide) (fun c_x => absurd c_x (by decide)) (fun _ => ?_)
                                        refine lv_aload_n hx hb dX0_isSound_25 rfl (lv_at hl 2 rfl) ?_
                                        refine lv_iload_n hx hb dX0_isSound_26 rfl (lv_at hl 1 rfl) ?_
                                        refine lv_iload_n hx hb dX0_isSound_27 rfl (lv_at hl 0 rfl) ?_
                                        refine rcVi (as := [.int (5 : Int32), .int (3 : Int32)]) (rest := []) (cl := RX0) C (c_X0_isSoundPair l G a S (5 : Int32) (3 : Int32) (vp_in_lit 5) (vp_in_lit 3)) F_X0_isSoundPair rfl bw232 bw234 bw8 hE hP (rv2 hE.K hP (q0 := 0) rfl) hl.1 dX0_isSound_28 ⟨Nat.le_of_ble_eq_true rfl, Nat.le_of_ble_eq_true rfl⟩ rfl (Nat.le_of_ble_eq_true rfl) ⟨Nat.zero_le _, Nat.zero_le _⟩ ?_
                                        refine lv_if_ne (tgt := 36) hx hb dX0_isSound_31 (by decide) (fun c_20 => ?_) (fun c_20 => ?_)
                                        · refine lv_iinc (v := (4 : Int32)) (lv' := [(2, .int (4 : Int32)), (1, .int (5 : Int32)), (0, .ref (a 0))]) hx hb dX0_isSound_36 hl (k := 0) rfl (by first | rfl | decide) (Nat.le_of_ble_eq_true rfl) rfl (fun ls hl => ?_)
                                          refine lv_goto (tgt := 20) hx hb dX0_isSound_39 (by decide) ?_
                                          refine lv_iload_n hx hb dX0_isSound_20 rfl (lv_at hl 0 rfl) ?_
                                          refine lv_iload_n hx hb dX0_isSound_21 rfl (lv_at hl 1 rfl) ?_
                                          refine lv_icmp_ge (tgt := 42) hx hb dX0_isSound_22 (by decide) (fun c_x => absurd c_x (by decide)) (fun _ => ?_)
                                          refine lv_aload_n hx hb dX0_isSound_25 rfl (lv_at hl 2 rfl) ?_
                                          refine lv_iload_n hx hb dX0_isSound_26 rfl (lv_at hl 1 rfl) ?_
                                          refine lv_iload_n hx hb dX0_isSound_27 rfl (lv_at hl 0 rfl) ?_
                                          refine rcVi (as := [.int (5 : Int32), .int (4 : Int32)]) (rest := []) (cl := RX0) C (c_X0_isSoundPair l G a S (5 : Int32) (4 : Int32) (vp_in_lit 5) (vp_in_lit 4)) F_X0_isSoundPair rfl bw232 bw234 bw8 hE hP (rv2 hE.K hP (q0 := 0) rfl) hl.1 dX0_isSound_28 ⟨Nat.le_of_ble_eq_true rfl, Nat.le_of_ble_eq_true rfl⟩ rfl (Nat.le_of_ble_eq_true rfl) ⟨Nat.zero_le _, Nat.zero_le _⟩ ?_
                                          refine lv_if_ne (tgt := 36) hx hb dX0_isSound_31 (by decide) (fun c_21 => ?_) (fun c_21 => ?_)
                                          · refine lv_iinc (v := (5 : Int32)) (lv' := [(2, .int (5 : Int32)), (1, .int (5 : Int32)), (0, .ref (a 0))]) hx hb dX0_isSound_36 hl (k := 0) rfl (by first | rfl | decide) (Nat.le_of_ble_eq_true rfl) rfl (fun ls hl => ?_)
                                            refine lv_goto (tgt := 20) hx hb dX0_isSound_39 (by decide) ?_
                                            refine lv_iload_n hx hb dX0_isSound_20 rfl (lv_at hl 0 rfl) ?_
                                            refine lv_iload_n hx hb dX0_isSound_21 rfl (lv_at hl 1 rfl) ?_
                                            refine lv_icmp_ge (tgt := 42) hx hb dX0_isSound_22 (by decide) (fun _ => ?_) (fun c_x => absurd (show (5 : Int32) ≤ (5 : Int32) from by decide) c_x)
                                            refine lv_iinc (v := (6 : Int32)) (lv' := [(1, .int (6 : Int32)), (2, .int (5 : Int32)), (0, .ref (a 0))]) hx hb dX0_isSound_42 hl (k := 1) rfl (by first | rfl | decide) (Nat.le_of_ble_eq_true rfl) rfl (fun ls hl => ?_)
                                            refine lv_goto (tgt := 2) hx hb dX0_isSound_45 (by decide) ?_
                                            refine lv_iload_n hx hb dX0_isSound_2 rfl (lv_at hl 0 rfl) ?_
                                            refine lv_bipush (v := (6 : Int32)) hx hb dX0_isSound_3 (by decide) ?_
                                            refine lv_icmp_ge (tgt := 48) hx hb dX0_isSound_5 (by decide) (fun _ => ?_) (fun c_x => absurd (show (6 : Int32) ≤ (6 : Int32) from by decide) c_x)
                                            refine lv_iconst (v := (1 : Int32)) hx hb dX0_isSound_48 (by decide) ?_
                                            exact re_z (ty := .boolean) hx hb hr hk (by decide) dX0_isSound_49 (ei (Eq.trans (if_neg c_1) (Eq.trans (if_neg c_2) (Eq.trans (if_neg c_3) (Eq.trans (if_neg c_4) (Eq.trans (if_neg c_5) (Eq.trans (if_neg c_6) (Eq.trans (if_neg c_7) (Eq.trans (if_neg c_8) (Eq.trans (if_neg c_9) (Eq.trans (if_neg c_10) (Eq.trans (if_neg c_11) (Eq.trans (if_neg c_12) (Eq.trans (if_neg c_13) (Eq.trans (if_neg c_14) (Eq.trans (if_neg c_15) (Eq.trans (if_neg c_16) (Eq.trans (if_neg c_17) (Eq.trans (if_neg c_18) (Eq.trans (if_neg c_19) (Eq.trans (if_neg c_20) (if_neg c_21))))))))))))))))))))))
                                          · refine lv_iconst (v := (0 : Int32)) hx hb dX0_isSound_34 (by decide) ?_
                                            exact re_z (ty := .boolean) hx hb hr hk (by decide) dX0_isSound_35 (ei (Eq.trans (if_neg c_1) (Eq.trans (if_neg c_2) (Eq.trans (if_neg c_3) (Eq.trans (if_neg c_4) (Eq.trans (if_neg c_5) (Eq.trans (if_neg c_6) (Eq.trans (if_neg c_7) (Eq.trans (if_neg c_8) (Eq.trans (if_neg c_9) (Eq.trans (if_neg c_10) (Eq.trans (if_neg c_11) (Eq.trans (if_neg c_12) (Eq.trans (if_neg c_13) (Eq.trans (if_neg c_14) (Eq.trans (if_neg c_15) (Eq.trans (if_neg c_16) (Eq.trans (if_neg c_17) (Eq.trans (if_neg c_18) (Eq.trans (if_neg c_19) (Eq.trans (if_neg c_20) (if_pos c_21))))))))))))))))))))))
                                        · refine lv_iconst (v := (0 : Int32)) hx hb dX0_isSound_34 (by decide) ?_
                                          exact re_z (ty := .boolean) hx hb hr hk (by decide) dX0_isSound_35 (ei (Eq.trans (if_neg c_1) (Eq.trans (if_neg c_2) (Eq.trans (if_neg c_3) (Eq.trans (if_neg c_4) (Eq.trans (if_neg c_5) (Eq.trans (if_neg c_6) (Eq.trans (if_neg c_7) (Eq.trans (if_neg c_8) (Eq.trans (if_neg c_9) (Eq.trans (if_neg c_10) (Eq.trans (if_neg c_11) (Eq.trans (if_neg c_12) (Eq.trans (if_neg c_13) (Eq.trans (if_neg c_14) (Eq.trans (if_neg c_15) (Eq.trans (if_neg c_16) (Eq.trans (if_neg c_17) (Eq.trans (if_neg c_18) (Eq.trans (if_neg c_19) (if_pos c_20)))))))))))))))))))))
                                      · refine lv_iconst (v := (0 : Int32)) hx hb dX0_isSound_34 (by decide) ?_
                                        exact re_z (ty := .boolean) hx hb hr hk (by decide) dX0_isSound_35 (ei (Eq.trans (if_neg c_1) (Eq.trans (if_neg c_2) (Eq.trans (if_neg c_3) (Eq.trans (if_neg c_4) (Eq.trans (if_neg c_5) (Eq.trans (if_neg c_6) (Eq.trans (if_neg c_7) (Eq.trans (if_neg c_8) (Eq.trans (if_neg c_9) (Eq.trans (if_neg c_10) (Eq.trans (if_neg c_11) (Eq.trans (if_neg c_12) (Eq.trans (if_neg c_13) (Eq.trans (if_neg c_14) (Eq.trans (if_neg c_15) (Eq.trans (if_neg c_16) (Eq.trans (if_neg c_17) (Eq.trans (if_neg c_18) (if_pos c_19))))))))))))))))))))
                                    · refine lv_iconst (v := (0 : Int32)) hx hb dX0_isSound_34 (by decide) ?_
                                      exact re_z (ty := .boolean) hx hb hr hk (by decide) dX0_isSound_35 (ei (Eq.trans (if_neg c_1) (Eq.trans (if_neg c_2) (Eq.trans (if_neg c_3) (Eq.trans (if_neg c_4) (Eq.trans (if_neg c_5) (Eq.trans (if_neg c_6) (Eq.trans (if_neg c_7) (Eq.trans (if_neg c_8) (Eq.trans (if_neg c_9) (Eq.trans (if_neg c_10) (Eq.trans (if_neg c_11) (Eq.trans (if_neg c_12) (Eq.trans (if_neg c_13) (Eq.trans (if_neg c_14) (Eq.trans (if_neg c_15) (Eq.trans (if_neg c_16) (Eq.trans (if_neg c_17) (if_pos c_18)))))))))))))))))))
                                  · refine lv_iconst (v := (0 : Int32)) hx hb dX0_isSound_34 (by decide) ?_
                                    exact re_z (ty := .boolean) hx hb hr hk (by decide) dX0_isSound_35 (ei (Eq.trans (if_neg c_1) (Eq.trans (if_neg c_2) (Eq.trans (if_neg c_3) (Eq.trans (if_neg c_4) (Eq.trans (if_neg c_5) (Eq.trans (if_neg c_6) (Eq.trans (if_neg c_7) (Eq.trans (if_neg c_8) (Eq.trans (if_neg c_9) (Eq.trans (if_neg c_10) (Eq.trans (if_neg c_11) (Eq.trans (if_neg c_12) (Eq.trans (if_neg c_13) (Eq.trans (if_neg c_14) (Eq.trans (if_neg c_15) (Eq.trans (if_neg c_16) (if_pos c_17))))))))))))))))))
                                · refine lv_iconst (v := (0 : Int32)) hx hb dX0_isSound_16 (by decide) ?_
                                  exact re_z (ty := .boolean) hx hb hr hk (by decide) dX0_isSound_17 (ei (Eq.trans (if_neg c_1) (Eq.trans (if_neg c_2) (Eq.trans (if_neg c_3) (Eq.trans (if_neg c_4) (Eq.trans (if_neg c_5) (Eq.trans (if_neg c_6) (Eq.trans (if_neg c_7) (Eq.trans (if_neg c_8) (Eq.trans (if_neg c_9) (Eq.trans (if_neg c_10) (Eq.trans (if_neg c_11) (Eq.trans (if_neg c_12) (Eq.trans (if_neg c_13) (Eq.trans (if_neg c_14) (Eq.trans (if_neg c_15) (if_pos c_16)))))))))))))))))
                              · refine lv_iconst (v := (0 : Int32)) hx hb dX0_isSound_34 (by decide) ?_
                                exact re_z (ty := .boolean) hx hb hr hk (by decide) dX0_isSound_35 (ei (Eq.trans (if_neg c_1) (Eq.trans (if_neg c_2) (Eq.trans (if_neg c_3) (Eq.trans (if_neg c_4) (Eq.trans (if_neg c_5) (Eq.trans (if_neg c_6) (Eq.trans (if_neg c_7) (Eq.trans (if_neg c_8) (Eq.trans (if_neg c_9) (Eq.trans (if_neg c_10) (Eq.trans (if_neg c_11) (Eq.trans (if_neg c_12) (Eq.trans (if_neg c_13) (Eq.trans (if_neg c_14) (if_pos c_15))))))))))))))))
                            · refine lv_iconst (v := (0 : Int32)) hx hb dX0_isSound_34 (by decide) ?_
                              exact re_z (ty := .boolean) hx hb hr hk (by decide) dX0_isSound_35 (ei (Eq.trans (if_neg c_1) (Eq.trans (if_neg c_2) (Eq.trans (if_neg c_3) (Eq.trans (if_neg c_4) (Eq.trans (if_neg c_5) (Eq.trans (if_neg c_6) (Eq.trans (if_neg c_7) (Eq.trans (if_neg c_8) (Eq.trans (if_neg c_9) (Eq.trans (if_neg c_10) (Eq.trans (if_neg c_11) (Eq.trans (if_neg c_12) (Eq.trans (if_neg c_13) (if_pos c_14)))))))))))))))
                          · refine lv_iconst (v := (0 : Int32)) hx hb dX0_isSound_34 (by decide) ?_
                            exact re_z (ty := .boolean) hx hb hr hk (by decide) dX0_isSound_35 (ei (Eq.trans (if_neg c_1) (Eq.trans (if_neg c_2) (Eq.trans (if_neg c_3) (Eq.trans (if_neg c_4) (Eq.trans (if_neg c_5) (Eq.trans (if_neg c_6) (Eq.trans (if_neg c_7) (Eq.trans (if_neg c_8) (Eq.trans (if_neg c_9) (Eq.trans (if_neg c_10) (Eq.trans (if_neg c_11) (Eq.trans (if_neg c_12) (if_pos c_13))))))))))))))
                        · refine lv_iconst (v := (0 : Int32)) hx hb dX0_isSound_34 (by decide) ?_
                          exact re_z (ty := .boolean) hx hb hr hk (by decide) dX0_isSound_35 (ei (Eq.trans (if_neg c_1) (Eq.trans (if_neg c_2) (Eq.trans (if_neg c_3) (Eq.trans (if_neg c_4) (Eq.trans (if_neg c_5) (Eq.trans (if_neg c_6) (Eq.trans (if_neg c_7) (Eq.trans (if_neg c_8) (Eq.trans (if_neg c_9) (Eq.trans (if_neg c_10) (Eq.trans (if_neg c_11) (if_pos c_12)))))))))))))
                      · refine lv_iconst (v := (0 : Int32)) hx hb dX0_isSound_16 (by decide) ?_
                        exact re_z (ty := .boolean) hx hb hr hk (by decide) dX0_isSound_17 (ei (Eq.trans (if_neg c_1) (Eq.trans (if_neg c_2) (Eq.trans (if_neg c_3) (Eq.trans (if_neg c_4) (Eq.trans (if_neg c_5) (Eq.trans (if_neg c_6) (Eq.trans (if_neg c_7) (Eq.trans (if_neg c_8) (Eq.trans (if_neg c_9) (Eq.trans (if_neg c_10) (if_pos c_11))))))))))))
                    · refine lv_iconst (v := (0 : Int32)) hx hb dX0_isSound_34 (by decide) ?_
                      exact re_z (ty := .boolean) hx hb hr hk (by decide) dX0_isSound_35 (ei (Eq.trans (if_neg c_1) (Eq.trans (if_neg c_2) (Eq.trans (if_neg c_3) (Eq.trans (if_neg c_4) (Eq.trans (if_neg c_5) (Eq.trans (if_neg c_6) (Eq.trans (if_neg c_7) (Eq.trans (if_neg c_8) (Eq.trans (if_neg c_9) (if_pos c_10)))))))))))
                  · refine lv_iconst (v := (0 : Int32)) hx hb dX0_isSound_34 (by decide) ?_
                    exact re_z (ty := .boolean) hx hb hr hk (by decide) dX0_isSound_35 (ei (Eq.trans (if_neg c_1) (Eq.trans (if_neg c_2) (Eq.trans (if_neg c_3) (Eq.trans (if_neg c_4) (Eq.trans (if_neg c_5) (Eq.trans (if_neg c_6) (Eq.trans (if_neg c_7) (Eq.trans (if_neg c_8) (if_pos c_9))))))))))
                · refine lv_iconst (v := (0 : Int32)) hx hb dX0_isSound_34 (by decide) ?_
                  exact re_z (ty := .boolean) hx hb hr hk (by decide) dX0_isSound_35 (ei (Eq.trans (if_neg c_1) (Eq.trans (if_neg c_2) (Eq.trans (if_neg c_3) (Eq.trans (if_neg c_4) (Eq.trans (if_neg c_5) (Eq.trans (if_neg c_6) (Eq.trans (if_neg c_7) (if_pos c_8)))))))))
              · refine lv_iconst (v := (0 : Int32)) hx hb dX0_isSound_16 (by decide) ?_
                exact re_z (ty := .boolean) hx hb hr hk (by decide) dX0_isSound_17 (ei (Eq.trans (if_neg c_1) (Eq.trans (if_neg c_2) (Eq.trans (if_neg c_3) (Eq.trans (if_neg c_4) (Eq.trans (if_neg c_5) (Eq.trans (if_neg c_6) (if_pos c_7))))))))
            · refine lv_iconst (v := (0 : Int32)) hx hb dX0_isSound_34 (by decide) ?_
              exact re_z (ty := .boolean) hx hb hr hk (by decide) dX0_isSound_35 (ei (Eq.trans (if_neg c_1) (Eq.trans (if_neg c_2) (Eq.trans (if_neg c_3) (Eq.trans (if_neg c_4) (Eq.trans (if_neg c_5) (if_pos c_6)))))))
          · refine lv_iconst (v := (0 : Int32)) hx hb dX0_isSound_34 (by decide) ?_
            exact re_z (ty := .boolean) hx hb hr hk (by decide) dX0_isSound_35 (ei (Eq.trans (if_neg c_1) (Eq.trans (if_neg c_2) (Eq.trans (if_neg c_3) (Eq.trans (if_neg c_4) (if_pos c_5))))))
        · refine lv_iconst (v := (0 : Int32)) hx hb dX0_isSound_16 (by decide) ?_
          exact re_z (ty := .boolean) hx hb hr hk (by decide) dX0_isSound_17 (ei (Eq.trans (if_neg c_1) (Eq.trans (if_neg c_2) (Eq.trans (if_neg c_3) (if_pos c_4)))))
      · refine lv_iconst (v := (0 : Int32)) hx hb dX0_isSound_34 (by decide) ?_
        exact re_z (ty := .boolean) hx hb hr hk (by decide) dX0_isSound_35 (ei (Eq.trans (if_neg c_1) (Eq.trans (if_neg c_2) (if_pos c_3))))
    · refine lv_iconst (v := (0 : Int32)) hx hb dX0_isSound_16 (by decide) ?_
      exact re_z (ty := .boolean) hx hb hr hk (by decide) dX0_isSound_17 (ei (Eq.trans (if_neg c_1) (if_pos c_2)))
  · refine lv_iconst (v := (0 : Int32)) hx hb dX0_isSound_16 (by decide) ?_
    exact re_z (ty := .boolean) hx hb hr hk (by decide) dX0_isSound_17 (ei (if_pos c_1))
