set_option maxRecDepth 100000 in
set_option maxHeartbeats 4000000 in
theorem c_J13_stringSize_95d88 (l : Launch) (G : GT) (p0 : Int64) : RO l G yJ13_stringSize_95d88 cJ13_stringSize_95d88 6 (some .int) 1 [.long p0] [] (some (.int (fJ13_stringSize_95d88 p0))) := by
  refine RO.ofW (own := RJ13) rfl (by decide +kernel) (Nat.le_of_ble_eq_true rfl) ?_
  intro p e s m below meth c C hr hk hE hP ls hl
  have hx := C.1
  have hb := C.2.1
  have hown := C.2.2.2.1
  have hw := C.2.2.2.2
  have hl : lv_has ls 6 [(0, .long p0)] := hl
  refine lv_iconst (v := (1 : Int32)) hx hb dJ13_stringSize_95d88_0 (by decide) ?_
  refine lv_istore_n (lv' := [(2, .int (1 : Int32)), (0, .long p0)]) hx hb dJ13_stringSize_95d88_1 rfl hl (Nat.le_of_ble_eq_true rfl) rfl (fun ls hl => ?_)
  refine lv_lload_n hx hb dJ13_stringSize_95d88_2 rfl (lv_at hl 1 rfl) ?_
  refine lv_lconst (v := (0 : Int64)) hx hb dJ13_stringSize_95d88_3 (by decide) ?_
  refine W.lcmp hx hb dJ13_stringSize_95d88_4 ?_
  refine lv_if_lt (tgt := 13) hx hb dJ13_stringSize_95d88_5 (by decide) (fun c_1 => ?_) (fun c_1 => ?_)
  · refine lv_ldc2 (v := (-10 : Int64)) hx hb hown (hw _ bw1523) dJ13_stringSize_95d88_13 ?_
    refine lv_lstore_n (lv' := [(3, .long (-10 : Int64)), (2, .int (1 : Int32)), (0, .long p0)]) hx hb dJ13_stringSize_95d88_16 rfl hl (Nat.le_of_ble_eq_true rfl) rfl (fun ls hl => ?_)
    refine lv_iconst (v := (1 : Int32)) hx hb dJ13_stringSize_95d88_17 (by decide) ?_
    refine lv_istore (lv' := [(5, .int (1 : Int32)), (3, .long (-10 : Int64)), (2, .int (1 : Int32)), (0, .long p0)]) hx hb dJ13_stringSize_95d88_18 hl (Nat.le_of_ble_eq_true rfl) rfl (fun ls hl => ?_)
    refine lv_iload hx hb dJ13_stringSize_95d88_20 (lv_at hl 0 rfl) ?_
    refine lv_bipush (v := (19 : Int32)) hx hb dJ13_stringSize_95d88_22 (by decide) ?_
    refine lv_icmp_ge (tgt := 50) hx hb dJ13_stringSize_95d88_24 (by decide) (fun c_x => absurd c_x (by decide)) (fun _ => ?_)
    refine lv_lload_n hx hb dJ13_stringSize_95d88_27 rfl (lv_at hl 3 rfl) ?_
    refine lv_lload_n hx hb dJ13_stringSize_95d88_28 rfl (lv_at hl 1 rfl) ?_
    refine W.lcmp hx hb dJ13_stringSize_95d88_29 ?_
    refine lv_if_le (tgt := 38) hx hb dJ13_stringSize_95d88_30 (by decide) (fun c_2 => ?_) (fun c_2 => ?_)
    · refine lv_ldc2 (v := (10 : Int64)) hx hb hown (hw _ bw1524) dJ13_stringSize_95d88_38 ?_
      refine lv_lload_n hx hb dJ13_stringSize_95d88_41 rfl (lv_at hl 1 rfl) ?_
      refine lv_lmul hx hb dJ13_stringSize_95d88_42 ?_
      refine k_foldl (y := (-100 : Int64)) (by decide) ?_
      refine lv_lstore_n (lv' := [(3, .long (-100 : Int64)), (5, .int (1 : Int32)), (2, .int (1 : Int32)), (0, .long p0)]) hx hb dJ13_stringSize_95d88_43 rfl hl (Nat.le_of_ble_eq_true rfl) rfl (fun ls hl => ?_)
      refine lv_iinc (v := (2 : Int32)) (lv' := [(5, .int (2 : Int32)), (3, .long (-100 : Int64)), (2, .int (1 : Int32)), (0, .long p0)]) hx hb dJ13_stringSize_95d88_44 hl (k := 1) rfl (by first | rfl | decide) (Nat.le_of_ble_eq_true rfl) rfl (fun ls hl => ?_)
      refine lv_goto (tgt := 20) hx hb dJ13_stringSize_95d88_47 (by decide) ?_
      refine lv_iload hx hb dJ13_stringSize_95d88_20 (lv_at hl 0 rfl) ?_
      refine lv_bipush (v := (19 : Int32)) hx hb dJ13_stringSize_95d88_22 (by decide) ?_
      refine lv_icmp_ge (tgt := 50) hx hb dJ13_stringSize_95d88_24 (by decide) (fun c_x => absurd c_x (by decide)) (fun _ => ?_)
      refine lv_lload_n hx hb dJ13_stringSize_95d88_27 rfl (lv_at hl 3 rfl) ?_
      refine lv_lload_n hx hb dJ13_stringSize_95d88_28 rfl (lv_at hl 1 rfl) ?_
      refine W.lcmp hx hb dJ13_stringSize_95d88_29 ?_
      refine lv_if_le (tgt := 38) hx hb dJ13_stringSize_95d88_30 (by decide) (fun c_3 => ?_) (fun c_3 => ?_)
      · refine lv_ldc2 (v := (10 : Int64)) hx hb hown (hw _ bw1524) dJ13_stringSize_95d88_38 ?_
        refine lv_lload_n hx hb dJ13_stringSize_95d88_41 rfl (lv_at hl 1 rfl) ?_
        refine lv_lmul hx hb dJ13_stringSize_95d88_42 ?_
        refine k_foldl (y := (-1000 : Int64)) (by decide) ?_
        refine lv_lstore_n (lv' := [(3, .long (-1000 : Int64)), (5, .int (2 : Int32)), (2, .int (1 : Int32)), (0, .long p0)]) hx hb dJ13_stringSize_95d88_43 rfl hl (Nat.le_of_ble_eq_true rfl) rfl (fun ls hl => ?_)
        refine lv_iinc (v := (3 : Int32)) (lv' := [(5, .int (3 : Int32)), (3, .long (-1000 : Int64)), (2, .int (1 : Int32)), (0, .long p0)]) hx hb dJ13_stringSize_95d88_44 hl (k := 1) rfl (by first | rfl | decide) (Nat.le_of_ble_eq_true rfl) rfl (fun ls hl => ?_)
        refine lv_goto (tgt := 20) hx hb dJ13_stringSize_95d88_47 (by decide) ?_
        refine lv_iload hx hb dJ13_stringSize_95d88_20 (lv_at hl 0 rfl) ?_
        refine lv_bipush (v := (19 : Int32)) hx hb dJ13_stringSize_95d88_22 (by decide) ?_
        refine lv_icmp_ge (tgt := 50) hx hb dJ13_stringSize_95d88_24 (by decide) (fun c_x => absurd c_x (by decide)) (fun _ => ?_)
        refine lv_lload_n hx hb dJ13_stringSize_95d88_27 rfl (lv_at hl 3 rfl) ?_
        refine lv_lload_n hx hb dJ13_stringSize_95d88_28 rfl (lv_at hl 1 rfl) ?_
        refine W.lcmp hx hb dJ13_stringSize_95d88_29 ?_
        refine lv_if_le (tgt := 38) hx hb dJ13_stringSize_95d88_30 (by decide) (fun c_4 => ?_) (fun c_4 => ?_)
        · refine lv_ldc2 (v := (10 : Int64)) hx hb hown (hw _ bw1524) dJ13_stringSize_95d88_38 ?_
          refine lv_lload_n hx hb dJ13_stringSize_95d88_41 rfl (lv_at hl 1 rfl) ?_
          refine lv_lmul hx hb dJ13_stringSize_95d88_42 ?_
          refine k_foldl (y := (-10000 : Int64)) (by decide) ?_
          refine lv_lstore_n (lv' := [(3, .long (-10000 : Int64)), (5, .int (3 : Int32)), (2, .int (1 : Int32)), (0, .long p0)]) hx hb dJ13_stringSize_95d88_43 rfl hl (Nat.le_of_ble_eq_true rfl) rfl (fun ls hl => ?_)
          refine lv_iinc (v := (4 : Int32)) (lv' := [(5, .int (4 : Int32)), (3, .long (-10000 : Int64)), (2, .int (1 : Int32)), (0, .long p0)]) hx hb dJ13_stringSize_95d88_44 hl (k := 1) rfl (by first | rfl | decide) (Nat.le_of_ble_eq_true rfl) rfl (fun ls hl => ?_)
          refine lv_goto (tgt := 20) hx hb dJ13_stringSize_95d88_47 (by decide) ?_
          refine lv_iload hx hb dJ13_stringSize_95d88_20 (lv_at hl 0 rfl) ?_
          refine lv_bipush (v := (19 : Int32)) hx hb dJ13_stringSize_95d88_22 (by decide) ?_
          refine lv_icmp_ge (tgt := 50) hx hb dJ13_stringSize_95d88_24 (by decide) (fun c_x => absurd c_x (by decide)) (fun _ => ?_)
          refine lv_lload_n hx hb dJ13_stringSize_95d88_27 rfl (lv_at hl 3 rfl) ?_
          refine lv_lload_n hx hb dJ13_stringSize_95d88_28 rfl (lv_at hl 1 rfl) ?_
          refine W.lcmp hx hb dJ13_stringSize_95d88_29 ?_
          refine lv_if_le (tgt := 38) hx hb dJ13_stringSize_95d88_30 (by decide) (fun c_5 => ?_) (fun c_5 => ?_)
          · refine lv_ldc2 (v := (10 : Int64)) hx hb hown (hw _ bw1524) dJ13_stringSize_95d88_38 ?_
            refine lv_lload_n hx hb dJ13_stringSize_95d88_41 rfl (lv_at hl 1 rfl) ?_
            refine lv_lmul hx hb dJ13_stringSize_95d88_42 ?_
            refine k_foldl (y := (-100000 : Int64)) (by decide) ?_
            refine lv_lstore_n (lv' := [(3, .long (-100000 : Int64)), (5, .int (4 : Int32)), (2, .int (1 : Int32)), (0, .long p0)]) hx hb dJ13_stringSize_95d88_43 rfl hl (Nat.le_of_ble_eq_true rfl) rfl (fun ls hl => ?_)
            refine lv_iinc (v := (5 : Int32)) (lv' := [(5, .int (5 : Int32)), (3, .long (-100000 : Int64)), (2, .int (1 : Int32)), (0, .long p0)]) hx hb dJ13_stringSize_95d88_44 hl (k := 1) rfl (by first | rfl | decide) (Nat.le_of_ble_eq_true rfl) rfl (fun ls hl => ?_)
            refine lv_goto (tgt := 20) hx hb dJ13_stringSize_95d88_47 (by decide) ?_
            refine lv_iload hx hb dJ13_stringSize_95d88_20 (lv_at hl 0 rfl) ?_
            refine lv_bipush (v := (19 : Int32)) hx hb dJ13_stringSize_95d88_22 (by decide) ?_
            refine lv_icmp_ge (tgt := 50) hx hb dJ13_stringSize_95d88_24 (by decide) (fun c_x => absurd c_x (by decide)) (fun _ => ?_)
            refine lv_lload_n hx hb dJ13_stringSize_95d88_27 rfl (lv_at hl 3 rfl) ?_
            refine lv_lload_n hx hb dJ13_stringSize_95d88_28 rfl (lv_at hl 1 rfl) ?_
            refine W.lcmp hx hb dJ13_stringSize_95d88_29 ?_
            refine lv_if_le (tgt := 38) hx hb dJ13_stringSize_95d88_30 (by decide) (fun c_6 => ?_) (fun c_6 => ?_)
            · refine lv_ldc2 (v := (10 : Int64)) hx hb hown (hw _ bw1524) dJ13_stringSize_95d88_38 ?_
              refine lv_lload_n hx hb dJ13_stringSize_95d88_41 rfl (lv_at hl 1 rfl) ?_
              refine lv_lmul hx hb dJ13_stringSize_95d88_42 ?_
              refine k_foldl (y := (-1000000 : Int64)) (by decide) ?_
              refine lv_lstore_n (lv' := [(3, .long (-1000000 : Int64)), (5, .int (5 : Int32)), (2, .int (1 : Int32)), (0, .long p0)]) hx hb dJ13_stringSize_95d88_43 rfl hl (Nat.le_of_ble_eq_true rfl) rfl (fun ls hl => ?_)
              refine lv_iinc (v := (6 : Int32)) (lv' := [(5, .int (6 : Int32)), (3, .long (-1000000 : Int64)), (2, .int (1 : Int32)), (0, .long p0)]) hx hb dJ13_stringSize_95d88_44 hl (k := 1) rfl (by first | rfl | decide) (Nat.le_of_ble_eq_true rfl) rfl (fun ls hl => ?_)
              refine lv_goto (tgt := 20) hx hb dJ13_stringSize_95d88_47 (by decide) ?_
              refine lv_iload hx hb dJ13_stringSize_95d88_20 (lv_at hl 0 rfl) ?_
              refine lv_bipush (v := (19 : Int32)) hx hb dJ13_stringSize_95d88_22 (by decide) ?_
              refine lv_icmp_ge (tgt := 50) hx hb dJ13_stringSize_95d88_24 (by decide) (fun c_x => absurd c_x (by decide)) (fun _ => ?_)
              refine lv_lload_n hx hb dJ13_stringSize_95d88_27 rfl (lv_at hl 3 rfl) ?_
              refine lv_lload_n hx hb dJ13_stringSize_95d88_28 rfl (lv_at hl 1 rfl) ?_
              refine W.lcmp hx hb dJ13_stringSize_95d88_29 ?_
              refine lv_if_le (tgt := 38) hx hb dJ13_stringSize_95d88_30 (by decide) (fun c_7 => ?_) (fun c_7 => ?_)
              · refine lv_ldc2 (v := (10 : Int64)) hx hb hown (hw _ bw1524) dJ13_stringSize_95d88_38 ?_
                refine lv_lload_n hx hb dJ13_stringSize_95d88_41 rfl (lv_at hl 1 rfl) ?_
                refine lv_lmul hx hb dJ13_stringSize_95d88_42 ?_
                refine k_foldl (y := (-10000000 : Int64)) (by decide) ?_
                refine lv_lstore_n (lv' := [(3, .long (-10000000 : Int64)), (5, .int (6 : Int32)), (2, .int (1 : Int32)), (0, .long p0)]) hx hb dJ13_stringSize_95d88_43 rfl hl (Nat.le_of_ble_eq_true rfl) rfl (fun ls hl => ?_)
                refine lv_iinc (v := (7 : Int32)) (lv' := [(5, .int (7 : Int32)), (3, .long (-10000000 : Int64)), (2, .int (1 : Int32)), (0, .long p0)]) hx hb dJ13_stringSize_95d88_44 hl (k := 1) rfl (by first | rfl | decide) (Nat.le_of_ble_eq_true rfl) rfl (fun ls hl => ?_)
                refine lv_goto (tgt := 20) hx hb dJ13_stringSize_95d88_47 (by decide) ?_
                refine lv_iload hx hb dJ13_stringSize_95d88_20 (lv_at hl 0 rfl) ?_
                refine lv_bipush (v := (19 : Int32)) hx hb dJ13_stringSize_95d88_22 (by decide) ?_
                refine lv_icmp_ge (tgt := 50) hx hb dJ13_stringSize_95d88_24 (by decide) (fun c_x => absurd c_x (by decide)) (fun _ => ?_)
                refine lv_lload_n hx hb dJ13_stringSize_95d88_27 rfl (lv_at hl 3 rfl) ?_
                refine lv_lload_n hx hb dJ13_stringSize_95d88_28 rfl (lv_at hl 1 rfl) ?_
                refine W.lcmp hx hb dJ13_stringSize_95d88_29 ?_
                refine lv_if_le (tgt := 38) hx hb dJ13_stringSize_95d88_30 (by decide) (fun c_8 => ?_) (fun c_8 => ?_)
                · refine lv_ldc2 (v := (10 : Int64)) hx hb hown (hw _ bw1524) dJ13_stringSize_95d88_38 ?_
                  refine lv_lload_n hx hb dJ13_stringSize_95d88_41 rfl (lv_at hl 1 rfl) ?_
                  refine lv_lmul hx hb dJ13_stringSize_95d88_42 ?_
                  refine k_foldl (y := (-100000000 : Int64)) (by decide) ?_
                  refine lv_lstore_n (lv' := [(3, .long (-100000000 : Int64)), (5, .int (7 : Int32)), (2, .int (1 : Int32)), (0, .long p0)]) hx hb dJ13_stringSize_95d88_43 rfl hl (Nat.le_of_ble_eq_true rfl) rfl (fun ls hl => ?_)
                  refine lv_iinc (v := (8 : Int32)) (lv' := [(5, .int (8 : Int32)), (3, .long (-100000000 : Int64)), (2, .int (1 : Int32)), (0, .long p0)]) hx hb dJ13_stringSize_95d88_44 hl (k := 1) rfl (by first | rfl | decide) (Nat.le_of_ble_eq_true rfl) rfl (fun ls hl => ?_)
                  refine lv_goto (tgt := 20) hx hb dJ13_stringSize_95d88_47 (by decide) ?_
                  refine lv_iload hx hb dJ13_stringSize_95d88_20 (lv_at hl 0 rfl) ?_
                  refine lv_bipush (v := (19 : Int32)) hx hb dJ13_stringSize_95d88_22 (by decide) ?_
                  refine lv_icmp_ge (tgt := 50) hx hb dJ13_stringSize_95d88_24 (by decide) (fun c_x => absurd c_x (by decide)) (fun _ => ?_)
                  refine lv_lload_n hx hb dJ13_stringSize_95d88_27 rfl (lv_at hl 3 rfl) ?_
                  refine lv_lload_n hx hb dJ13_stringSize_95d88_28 rfl (lv_at hl 1 rfl) ?_
                  refine W.lcmp hx hb dJ13_stringSize_95d88_29 ?_
                  refine lv_if_le (tgt := 38) hx hb dJ13_stringSize_95d88_30 (by decide) (fun c_9 => ?_) (fun c_9 => ?_)
                  · refine lv_ldc2 (v := (10 : Int64)) hx hb hown (hw _ bw1524) dJ13_stringSize_95d88_38 ?_
                    refine lv_lload_n hx hb dJ13_stringSize_95d88_41 rfl (lv_at hl 1 rfl) ?_
                    refine lv_lmul hx hb dJ13_stringSize_95d88_42 ?_
                    refine k_foldl (y := (-1000000000 : Int64)) (by decide) ?_
                    refine lv_lstore_n (lv' := [(3, .long (-1000000000 : Int64)), (5, .int (8 : Int32)), (2, .int (1 : Int32)), (0, .long p0)]) hx hb dJ13_stringSize_95d88_43 rfl hl (Nat.le_of_ble_eq_true rfl) rfl (fun ls hl => ?_)
                    refine lv_iinc (v := (9 : Int32)) (lv' := [(5, .int (9 : Int32)), (3, .long (-1000000000 : Int64)), (2, .int (1 : Int32)), (0, .long p0)]) hx hb dJ13_stringSize_95d88_44 hl (k := 1) rfl (by first | rfl | decide) (Nat.le_of_ble_eq_true rfl) rfl (fun ls hl => ?_)
                    refine lv_goto (tgt := 20) hx hb dJ13_stringSize_95d88_47 (by decide) ?_
                    refine lv_iload hx hb dJ13_stringSize_95d88_20 (lv_at hl 0 rfl) ?_
                    refine lv_bipush (v := (19 : Int32)) hx hb dJ13_stringSize_95d88_22 (by decide) ?_
                    refine lv_icmp_ge (tgt := 50) hx hb dJ13_stringSize_95d88_24 (by decide) (fun c_x => absurd c_x (by decide)) (fun _ => ?_)
                    refine lv_lload_n hx hb dJ13_stringSize_95d88_27 rfl (lv_at hl 3 rfl) ?_
                    refine lv_lload_n hx hb dJ13_stringSize_95d88_28 rfl (lv_at hl 1 rfl) ?_
                    refine W.lcmp hx hb dJ13_stringSize_95d88_29 ?_
                    refine lv_if_le (tgt := 38) hx hb dJ13_stringSize_95d88_30 (by decide) (fun c_10 => ?_) (fun c_10 => ?_)
                    · refine lv_ldc2 (v := (10 : Int64)) hx hb hown (hw _ bw1524) dJ13_stringSize_95d88_38 ?_
                      refine lv_lload_n hx hb dJ13_stringSize_95d88_41 rfl (lv_at hl 1 rfl) ?_
                      refine lv_lmul hx hb dJ13_stringSize_95d88_42 ?_
                      refine k_foldl (y := (-10000000000 : Int64)) (by decide) ?_
                      refine lv_lstore_n (lv' := [(3, .long (-10000000000 : Int64)), (5, .int (9 : Int32)), (2, .int (1 : Int32)), (0, .long p0)]) hx hb dJ13_stringSize_95d88_43 rfl hl (Nat.le_of_ble_eq_true rfl) rfl (fun ls hl => ?_)
                      refine lv_iinc (v := (10 : Int32)) (lv' := [(5, .int (10 : Int32)), (3, .long (-10000000000 : Int64)), (2, .int (1 : Int32)), (0, .long p0)]) hx hb dJ13_stringSize_95d88_44 hl (k := 1) rfl (by first | rfl | decide) (Nat.le_of_ble_eq_true rfl) rfl (fun ls hl => ?_)
                      refine lv_goto (tgt := 20) hx hb dJ13_stringSize_95d88_47 (by decide) ?_
                      refine lv_iload hx hb dJ13_stringSize_95d88_20 (lv_at hl 0 rfl) ?_
                      refine lv_bipush (v := (19 : Int32)) hx hb dJ13_stringSize_95d88_22 (by decide) ?_
                      refine lv_icmp_ge (tgt := 50) hx hb dJ13_stringSize_95d88_24 (by decide) (fun c_x => absurd c_x (by decide)) (fun _ => ?_)
                      refine lv_lload_n hx hb dJ13_stringSize_95d88_27 rfl (lv_at hl 3 rfl) ?_
                      refine lv_lload_n hx hb dJ13_stringSize_95d88_28 rfl (lv_at hl 1 rfl) ?_
                      refine W.lcmp hx hb dJ13_stringSize_95d88_29 ?_
                      refine lv_if_le (tgt := 38) hx hb dJ13_stringSize_95d88_30 (by decide) (fun c_11 => ?_) (fun c_11 => ?_)
                      · refine lv_ldc2 (v := (10 : Int64)) hx hb hown (hw _ bw1524) dJ13_stringSize_95d88_38 ?_
                        refine lv_lload_n hx hb dJ13_stringSize_95d88_41 rfl (lv_at hl 1 rfl) ?_
                        refine lv_lmul hx hb dJ13_stringSize_95d88_42 ?_
                        refine k_foldl (y := (-100000000000 : Int64)) (by decide) ?_
                        refine lv_lstore_n (lv' := [(3, .long (-100000000000 : Int64)), (5, .int (10 : Int32)), (2, .int (1 : Int32)), (0, .long p0)]) hx hb dJ13_stringSize_95d88_43 rfl hl (Nat.le_of_ble_eq_true rfl) rfl (fun ls hl => ?_)
                        refine lv_iinc (v := (11 : Int32)) (lv' := [(5, .int (11 : Int32)), (3, .long (-100000000000 : Int64)), (2, .int (1 : Int32)), (0, .long p0)]) hx hb dJ13_stringSize_95d88_44 hl (k := 1) rfl (by first | rfl | decide) (Nat.le_of_ble_eq_true rfl) rfl (fun ls hl => ?_)
                        refine lv_goto (tgt := 20) hx hb dJ13_stringSize_95d88_47 (by decide) ?_
                        refine lv_iload hx hb dJ13_stringSize_95d88_20 (lv_at hl 0 rfl) ?_
                        refine lv_bipush (v := (19 : Int32)) hx hb dJ13_stringSize_95d88_22 (by decide) ?_
                        refine lv_icmp_ge (tgt := 50) hx hb dJ13_stringSize_95d88_24 (by decide) (fun c_x => absurd c_x (by decide)) (fun _ => ?_)
                        refine lv_lload_n hx hb dJ13_stringSize_95d88_27 rfl (lv_at hl 3 rfl) ?_
                        refine lv_lload_n hx hb dJ13_stringSize_95d88_28 rfl (lv_at hl 1 rfl) ?_
                        refine W.lcmp hx hb dJ13_stringSize_95d88_29 ?_
                        refine lv_if_le (tgt := 38) hx hb dJ13_stringSize_95d88_30 (by decide) (fun c_12 => ?_) (fun c_12 => ?_)
                        · refine lv_ldc2 (v := (10 : Int64)) hx hb hown (hw _ bw1524) dJ13_stringSize_95d88_38 ?_
                          refine lv_lload_n hx hb dJ13_stringSize_95d88_41 rfl (lv_at hl 1 rfl) ?_
                          refine lv_lmul hx hb dJ13_stringSize_95d88_42 ?_
                          refine k_foldl (y := (-1000000000000 : Int64)) (by decide) ?_
                          refine lv_lstore_n (lv' := [(3, .long (-1000000000000 : Int64)), (5, .int (11 : Int32)), (2, .int (1 : Int32)), (0, .long p0)]) hx hb dJ13_stringSize_95d88_43 rfl hl (Nat.le_of_ble_eq_true rfl) rfl (fun ls hl => ?_)
                          refine lv_iinc (v := (12 : Int32)) (lv' := [(5, .int (12 : Int32)), (3, .long (-1000000000000 : Int64)), (2, .int (1 : Int32)), (0, .long p0)]) hx hb dJ13_stringSize_95d88_44 hl (k := 1) rfl (by first | rfl | decide) (Nat.le_of_ble_eq_true rfl) rfl (fun ls hl => ?_)
                          refine lv_goto (tgt := 20) hx hb dJ13_stringSize_95d88_47 (by decide) ?_
                          refine lv_iload hx hb dJ13_stringSize_95d88_20 (lv_at hl 0 rfl) ?_
                          refine lv_bipush (v := (19 : Int32)) hx hb dJ13_stringSize_95d88_22 (by decide) ?_
                          refine lv_icmp_ge (tgt := 50) hx hb dJ13_stringSize_95d88_24 (by decide) (fun c_x => absurd c_x (by decide)) (fun _ => ?_)
                          refine lv_lload_n hx hb dJ13_stringSize_95d88_27 rfl (lv_at hl 3 rfl) ?_
                          refine lv_lload_n hx hb dJ13_stringSize_95d88_28 rfl (lv_at hl 1 rfl) ?_
                          refine W.lcmp hx hb dJ13_stringSize_95d88_29 ?_
                          refine lv_if_le (tgt := 38) hx hb dJ13_stringSize_95d88_30 (by decide) (fun c_13 => ?_) (fun c_13 => ?_)
                          · refine lv_ldc2 (v := (10 : Int64)) hx hb hown (hw _ bw1524) dJ13_stringSize_95d88_38 ?_
                            refine lv_lload_n hx hb dJ13_stringSize_95d88_41 rfl (lv_at hl 1 rfl) ?_
                            refine lv_lmul hx hb dJ13_stringSize_95d88_42 ?_
                            refine k_foldl (y := (-10000000000000 : Int64)) (by decide) ?_
                            refine lv_lstore_n (lv' := [(3, .long (-10000000000000 : Int64)), (5, .int (12 : Int32)), (2, .int (1 : Int32)), (0, .long p0)]) hx hb dJ13_stringSize_95d88_43 rfl hl (Nat.le_of_ble_eq_true rfl) rfl (fun ls hl => ?_)
                            refine lv_iinc (v := (13 : Int32)) (lv' := [(5, .int (13 : Int32)), (3, .long (-10000000000000 : Int64)), (2, .int (1 : Int32)), (0, .long p0)]) hx hb dJ13_stringSize_95d88_44 hl (k := 1) rfl (by first | rfl | decide) (Nat.le_of_ble_eq_true rfl) rfl (fun ls hl => ?_)
                            refine lv_goto (tgt := 20) hx hb dJ13_stringSize_95d88_47 (by decide) ?_
                            refine lv_iload hx hb dJ13_stringSize_95d88_20 (lv_at hl 0 rfl) ?_
                            refine lv_bipush (v := (19 : Int32)) hx hb dJ13_stringSize_95d88_22 (by decide) ?_
                            refine lv_icmp_ge (tgt := 50) hx hb dJ13_stringSize_95d88_24 (by decide) (fun c_x => absurd c_x (by decide)) (fun _ => ?_)
                            refine lv_lload_n hx hb dJ13_stringSize_95d88_27 rfl (lv_at hl 3 rfl) ?_
                            refine lv_lload_n hx hb dJ13_stringSize_95d88_28 rfl (lv_at hl 1 rfl) ?_
                            refine W.lcmp hx hb dJ13_stringSize_95d88_29 ?_
                            refine lv_if_le (tgt := 38) hx hb dJ13_stringSize_95d88_30 (by decide) (fun c_14 => ?_) (fun c_14 => ?_)
                            · refine lv_ldc2 (v := (10 : Int64)) hx hb hown (hw _ bw1524) dJ13_stringSize_95d88_38 ?_
                              refine lv_lload_n hx hb dJ13_stringSize_95d88_41 rfl (lv_at hl 1 rfl) ?_
                              refine lv_lmul hx hb dJ13_stringSize_95d88_42 ?_
                              refine k_foldl (y := (-100000000000000 : Int64)) (by decide) ?_
                              refine lv_lstore_n (lv' := [(3, .long (-100000000000000 : Int64)), (5, .int (13 : Int32)), (2, .int (1 : Int32)), (0, .long p0)]) hx hb dJ13_stringSize_95d88_43 rfl hl (Nat.le_of_ble_eq_true rfl) rfl (fun ls hl => ?_)
                              refine lv_iinc (v := (14 : Int32)) (lv' := [(5, .int (14 : Int32)), (3, .long (-100000000000000 : Int64)), (2, .int (1 : Int32)), (0, .long p0)]) hx hb dJ13_stringSize_95d88_44 hl (k := 1) rfl (by first | rfl | decide) (Nat.le_of_ble_eq_true rfl) rfl (fun ls hl => ?_)
                              refine lv_goto (tgt := 20) hx hb dJ13_stringSize_95d88_47 (by decide) ?_
                              refine lv_iload hx hb dJ13_stringSize_95d88_20 (lv_at hl 0 rfl) ?_
                              refine lv_bipush (v := (19 : Int32)) hx hb dJ13_stringSize_95d88_22 (by decide) ?_
                              refine lv_icmp_ge (tgt := 50) hx hb dJ13_stringSize_95d88_24 (by decide) (fun c_x => absurd c_x (by decide)) (fun _ => ?_)
                              refine lv_lload_n hx hb dJ13_stringSize_95d88_27 rfl (lv_at hl 3 rfl) ?_
                              refine lv_lload_n hx hb dJ13_stringSize_95d88_28 rfl (lv_at hl 1 rfl) ?_
                              refine W.lcmp hx hb dJ13_stringSize_95d88_29 ?_
                              refine lv_if_le (tgt := 38) hx hb dJ13_stringSize_95d88_30 (by decide) (fun c_15 => ?_) (fun c_15 => ?_)
                              · refine lv_ldc2 (v := (10 : Int64)) hx hb hown (hw _ bw1524) dJ13_stringSize_95d88_38 ?_
                                refine lv_lload_n hx hb dJ13_stringSize_95d88_41 rfl (lv_at hl 1 rfl) ?_
                                refine lv_lmul hx hb dJ13_stringSize_95d88_42 ?_
                                refine k_foldl (y := (-1000000000000000 : Int64)) (by decide) ?_
                                refine lv_lstore_n (lv' := [(3, .long (-1000000000000000 : Int64)), (5, .int (14 : Int32)), (2, .int (1 : Int32)), (0, .long p0)]) hx hb dJ13_stringSize_95d88_43 rfl hl (Nat.le_of_ble_eq_true rfl) rfl (fun ls hl => ?_)
                                refine lv_iinc (v := (15 : Int32)) (lv' := [(5, .int (15 : Int32)), (3, .long (-1000000000000000 : Int64)), (2, .int (1 : Int32)), (0, .long p0)]) hx hb dJ13_stringSize_95d88_44 hl (k := 1) rfl (by first | rfl | decide) (Nat.le_of_ble_eq_true rfl) rfl (fun ls hl => ?_)
                                refine lv_goto (tgt := 20) hx hb dJ13_stringSize_95d88_47 (by decide) ?_
                                refine lv_iload hx hb dJ13_stringSize_95d88_20 (lv_at hl 0 rfl) ?_
                                refine lv_bipush (v := (19 : Int32)) hx hb dJ13_stringSize_95d88_22 (by decide) ?_
                                refine lv_icmp_ge (tgt := 50) hx hb dJ13_stringSize_95d88_24 (by decide) (fun c_x => absurd c_x (by decide)) (fun _ => ?_)
                                refine lv_lload_n hx hb dJ13_stringSize_95d88_27 rfl (lv_at hl 3 rfl) ?_
                                refine lv_lload_n hx hb dJ13_stringSize_95d88_28 rfl (lv_at hl 1 rfl) ?_
                                refine W.lcmp hx hb dJ13_stringSize_95d88_29 ?_
                                refine lv_if_le (tgt := 38) hx hb dJ13_stringSize_95d88_30 (by decide) (fun c_16 => ?_) (fun c_16 => ?_)
                                · refine lv_ldc2 (v := (10 : Int64)) hx hb hown (hw _ bw1524) dJ13_stringSize_95d88_38 ?_
                                  refine lv_lload_n hx hb dJ13_stringSize_95d88_41 rfl (lv_at hl 1 rfl) ?_
                                  refine lv_lmul hx hb dJ13_stringSize_95d88_42 ?_
                                  refine k_foldl (y := (-10000000000000000 : Int64)) (by decide) ?_
                                  refine lv_lstore_n (lv' := [(3, .long (-10000000000000000 : Int64)), (5, .int (15 : Int32)), (2, .int (1 : Int32)), (0, .long p0)]) hx hb dJ13_stringSize_95d88_43 rfl hl (Nat.le_of_ble_eq_true rfl) rfl (fun ls hl => ?_)
                                  refine lv_iinc (v := (16 : Int32)) (lv' := [(5, .int (16 : Int32)), (3, .long (-10000000000000000 : Int64)), (2, .int (1 : Int32)), (0, .long p0)]) hx hb dJ13_stringSize_95d88_44 hl (k := 1) rfl (by first | rfl | decide) (Nat.le_of_ble_eq_true rfl) rfl (fun ls hl => ?_)
                                  refine lv_goto (tgt := 20) hx hb dJ13_stringSize_95d88_47 (by decide) ?_
                                  refine lv_iload hx hb dJ13_stringSize_95d88_20 (lv_at hl 0 rfl) ?_
                                  refine lv_bipush (v := (19 : Int32)) hx hb dJ13_stringSize_95d88_22 (by decide) ?_
                                  refine lv_icmp_ge (tgt := 50) hx hb dJ13_stringSize_95d88_24 (by decide) (fun c_x => absurd c_x (by decide)) (fun _ => ?_)
                                  refine lv_lload_n hx hb dJ13_stringSize_95d88_27 rfl (lv_at hl 3 rfl) ?_
                                  refine lv_lload_n hx hb dJ13_stringSize_95d88_28 rfl (lv_at hl 1 rfl) ?_
                                  refine W.lcmp hx hb dJ13_stringSize_95d88_29 ?_
                                  refine lv_if_le (tgt := 38) hx hb dJ13_stringSize_95d88_30 (by decide) (fun c_17 => ?_) (fun c_17 => ?_)
                                  · refine lv_ldc2 (v := (10 : Int64)) hx hb hown (hw _ bw1524) dJ13_stringSize_95d88_38 ?_
                                    refine lv_lload_n hx hb dJ13_stringSize_95d88_41 rfl (lv_at hl 1 rfl) ?_
                                    refine lv_lmul hx hb dJ13_stringSize_95d88_42 ?_
                                    refine k_foldl (y := (-100000000000000000 : Int64)) (by decide) ?_
                                    refine lv_lstore_n (lv' := [(3, .long (-100000000000000000 : Int64)), (5, .int (16 : Int32)), (2, .int (1 : Int32)), (0, .long p0)]) hx hb dJ13_stringSize_95d88_43 rfl hl (Nat.le_of_ble_eq_true rfl) rfl (fun ls hl => ?_)
                                    refine lv_iinc (v := (17 : Int32)) (lv' := [(5, .int (17 : Int32)), (3, .long (-100000000000000000 : Int64)), (2, .int (1 : Int32)), (0, .long p0)]) hx hb dJ13_stringSize_95d88_44 hl (k := 1) rfl (by first | rfl | decide) (Nat.le_of_ble_eq_true rfl) rfl (fun ls hl => ?_)
                                    refine lv_goto (tgt := 20) hx hb dJ13_stringSize_95d88_47 (by decide) ?_
                                    refine lv_iload hx hb dJ13_stringSize_95d88_20 (lv_at hl 0 rfl) ?_
                                    refine lv_bipush (v := (19 : Int32)) hx hb dJ13_stringSize_95d88_22 (by decide) ?_
                                    refine lv_icmp_ge (tgt := 50) hx hb dJ13_stringSize_95d88_24 (by decide) (fun c_x => absurd c_x (by decide)) (fun _ => ?_)
                                    refine lv_lload_n hx hb dJ13_stringSize_95d88_27 rfl (lv_at hl 3 rfl) ?_
                                    refine lv_lload_n hx hb dJ13_stringSize_95d88_28 rfl (lv_at hl 1 rfl) ?_
                                    refine W.lcmp hx hb dJ13_stringSize_95d88_29 ?_
                                    refine lv_if_le (tgt := 38) hx hb dJ13_stringSize_95d88_30 (by decide) (fun c_18 => ?_) (fun c_18 => ?_)
                                    · refine lv_ldc2 (v := (10 : Int64)) hx hb hown (hw _ bw1524) dJ13_stringSize_95d88_38 ?_
                                      refine lv_lload_n hx hb dJ13_stringSize_95d88_41 rfl (lv_at hl 1 rfl) ?_
                                      refine lv_lmul hx hb dJ13_stringSize_95d88_42 ?_
                                      refine k_foldl (y := (-1000000000000000000 : Int64)) (by decide) ?_
                                      refine lv_lstore_n (lv' := [(3, .long (-1000000000000000000 : Int64)), (5, .int (17 : Int32)), (2, .int (1 : Int32)), (0, .long p0)]) hx hb dJ13_stringSize_95d88_43 rfl hl (Nat.le_of_ble_eq_true rfl) rfl (fun ls hl => ?_)
                                      refine lv_iinc (v := (18 : Int32)) (lv' := [(5, .int (18 : Int32)), (3, .long (-1000000000000000000 : Int64)), (2, .int (1 : Int32)), (0, .long p0)]) hx hb dJ13_stringSize_95d88_44 hl (k := 1) rfl (by first | rfl | decide) (Nat.le_of_ble_eq_true rfl) rfl (fun ls hl => ?_)
                                      refine lv_goto (tgt := 20) hx hb dJ13_stringSize_95d88_47 (by decide) ?_
                                      refine lv_iload hx hb dJ13_stringSize_95d88_20 (lv_at hl 0 rfl) ?_
                                      refine lv_bipush (v := (19 : Int32)) hx hb dJ13_stringSize_95d88_22 (by decide) ?_
                                      refine lv_icmp_ge (tgt := 50) hx hb dJ13_stringSize_95d88_24 (by decide) (fun c_x => absurd c_x (by decide)) (fun _ => ?_)
                                      refine lv_lload_n hx hb dJ13_stringSize_95d88_27 rfl (lv_at hl 3 rfl) ?_
                                      refine lv_lload_n hx hb dJ13_stringSize_95d88_28 rfl (lv_at hl 1 rfl) ?_
                                      refine W.lcmp hx hb dJ13_stringSize_95d88_29 ?_
                                      refine lv_if_le (tgt := 38) hx hb dJ13_stringSize_95d88_30 (by decide) (fun c_19 => ?_) (fun c_19 => ?_)
                                      · refine lv_ldc2 (v := (10 : Int64)) hx hb hown (hw _ bw1524) dJ13_stringSize_95d88_38 ?_
                                        refine lv_lload_n hx hb dJ13_stringSize_95d88_41 rfl (lv_at hl 1 rfl) ?_
                                        refine lv_lmul hx hb dJ13_stringSize_95d88_42 ?_
                                        refine k_foldl (y := (8446744073709551616 : Int64)) (by decide) ?_
                                        refine lv_lstore_n (lv' := [(3, .long (8446744073709551616 : Int64)), (5, .int (18 : Int32)), (2, .int (1 : Int32)), (0, .long p0)]) hx hb dJ13_stringSize_95d88_43 rfl hl (Nat.le_of_ble_eq_true rfl) rfl (fun ls hl => ?_)
                                        refine lv_iinc (v := (19 : Int32)) (lv' := [(5, .int (19 : Int32)), (3, .long (8446744073709551616 : Int64)), (2, .int (1 : Int32)), (0, .long p0)]) hx hb dJ13_stringSize_95d88_44 hl (k := 1) rfl (by first | rfl | decide) (Nat.le_of_ble_eq_true rfl) rfl (fun ls hl => ?_)
                                        refine lv_goto (tgt := 20) hx hb dJ13_stringSize_95d88_47 (by decide) ?_
                                        refine lv_iload hx hb dJ13_stringSize_95d88_20 (lv_at hl 0 rfl) ?_
                                        refine lv_bipush (v := (19 : Int32)) hx hb dJ13_stringSize_95d88_22 (by decide) ?_
                                        refine lv_icmp_ge (tgt := 50) hx hb dJ13_stringSize_95d88_24 (by decide) (fun _ => ?_) (fun c_x => absurd (show (19 : Int32) ≤ (19 : Int32) from by decide) c_x)
                                        refine lv_bipush (v := (19 : Int32)) hx hb dJ13_stringSize_95d88_50 (by decide) ?_
                                        refine lv_iload_n hx hb dJ13_stringSize_95d88_52 rfl (lv_at hl 2 rfl) ?_
                                        refine lv_iadd hx hb dJ13_stringSize_95d88_53 ?_
                                        refine k_foldi (y := (20 : Int32)) (by decide) ?_
                                        exact re_i hx hb hr hk dJ13_stringSize_95d88_54 (ei (Eq.trans (if_pos c_1) (Eq.trans (if_pos c_2) (Eq.trans (if_pos c_3) (Eq.trans (if_pos c_4) (Eq.trans (if_pos c_5) (Eq.trans (if_pos c_6) (Eq.trans (if_pos c_7) (Eq.trans (if_pos c_8) (Eq.trans (if_pos c_9) (Eq.trans (if_pos c_10) (Eq.trans (if_pos c_11) (Eq.trans (if_pos c_12) (Eq.trans (if_pos c_13) (Eq.trans (if_pos c_14) (Eq.trans (if_pos c_15) (Eq.trans (if_pos c_16) (Eq.trans (if_pos c_17) (Eq.trans (if_pos c_18) (if_pos c_19))))))))))))))))))))
                                      · refine lv_iload hx hb dJ13_stringSize_95d88_33 (lv_at hl 0 rfl) ?_
                                        refine lv_iload_n hx hb dJ13_stringSize_95d88_35 rfl (lv_at hl 2 rfl) ?_
                                        refine lv_iadd hx hb dJ13_stringSize_95d88_36 ?_
                                        refine k_foldi (y := (19 : Int32)) (by decide) ?_
                                        exact re_i hx hb hr hk dJ13_stringSize_95d88_37 (ei (Eq.trans (if_pos c_1) (Eq.trans (if_pos c_2) (Eq.trans (if_pos c_3) (Eq.trans (if_pos c_4) (Eq.trans (if_pos c_5) (Eq.trans (if_pos c_6) (Eq.trans (if_pos c_7) (Eq.trans (if_pos c_8) (Eq.trans (if_pos c_9) (Eq.trans (if_pos c_10) (Eq.trans (if_pos c_11) (Eq.trans (if_pos c_12) (Eq.trans (if_pos c_13) (Eq.trans (if_pos c_14) (Eq.trans (if_pos c_15) (Eq.trans (if_pos c_16) (Eq.trans (if_pos c_17) (Eq.trans (if_pos c_18) (if_neg c_19))))))))))))))))))))
                                    · refine lv_iload hx hb dJ13_stringSize_95d88_33 (lv_at hl 0 rfl) ?_
                                      refine lv_iload_n hx hb dJ13_stringSize_95d88_35 rfl (lv_at hl 2 rfl) ?_
                                      refine lv_iadd hx hb dJ13_stringSize_95d88_36 ?_
                                      refine k_foldi (y := (18 : Int32)) (by decide) ?_
                                      exact re_i hx hb hr hk dJ13_stringSize_95d88_37 (ei (Eq.trans (if_pos c_1) (Eq.trans (if_pos c_2) (Eq.trans (if_pos c_3) (Eq.trans (if_pos c_4) (Eq.trans (if_pos c_5) (Eq.trans (if_pos c_6) (Eq.trans (if_pos c_7) (Eq.trans (if_pos c_8) (Eq.trans (if_pos c_9) (Eq.trans (if_pos c_10) (Eq.trans (if_pos c_11) (Eq.trans (if_pos c_12) (Eq.trans (if_pos c_13) (Eq.trans (if_pos c_14) (Eq.trans (if_pos c_15) (Eq.trans (if_pos c_16) (Eq.trans (if_pos c_17) (if_neg c_18)))))))))))))))))))
                                  · refine lv_iload hx hb dJ13_stringSize_95d88_33 (lv_at hl 0 rfl) ?_
                                    refine lv_iload_n hx hb dJ13_stringSize_95d88_35 rfl (lv_at hl 2 rfl) ?_
                                    refine lv_iadd hx hb dJ13_stringSize_95d88_36 ?_
                                    refine k_foldi (y := (17 : Int32)) (by decide) ?_
                                    exact re_i hx hb hr hk dJ13_stringSize_95d88_37 (ei (Eq.trans (if_pos c_1) (Eq.trans (if_pos c_2) (Eq.trans (if_pos c_3) (Eq.trans (if_pos c_4) (Eq.trans (if_pos c_5) (Eq.trans (if_pos c_6) (Eq.trans (if_pos c_7) (Eq.trans (if_pos c_8) (Eq.trans (if_pos c_9) (Eq.trans (if_pos c_10) (Eq.trans (if_pos c_11) (Eq.trans (if_pos c_12) (Eq.trans (if_pos c_13) (Eq.trans (if_pos c_14) (Eq.trans (if_pos c_15) (Eq.trans (if_pos c_16) (if_neg c_17))))))))))))))))))
                                · refine lv_iload hx hb dJ13_stringSize_95d88_33 (lv_at hl 0 rfl) ?_
                                  refine lv_iload_n hx hb dJ13_stringSize_95d88_35 rfl (lv_at hl 2 rfl) ?_
                                  refine lv_iadd hx hb dJ13_stringSize_95d88_36 ?_
                                  refine k_foldi (y := (16 : Int32)) (by decide) ?_
                                  exact re_i hx hb hr hk dJ13_stringSize_95d88_37 (ei (Eq.trans (if_pos c_1) (Eq.trans (if_pos c_2) (Eq.trans (if_pos c_3) (Eq.trans (if_pos c_4) (Eq.trans (if_pos c_5) (Eq.trans (if_pos c_6) (Eq.trans (if_pos c_7) (Eq.trans (if_pos c_8) (Eq.trans (if_pos c_9) (Eq.trans (if_pos c_10) (Eq.trans (if_pos c_11) (Eq.trans (if_pos c_12) (Eq.trans (if_pos c_13) (Eq.trans (if_pos c_14) (Eq.trans (if_pos c_15) (if_neg c_16)))))))))))))))))
                              · refine lv_iload hx hb dJ13_stringSize_95d88_33 (lv_at hl 0 rfl) ?_
                                refine lv_iload_n hx hb dJ13_stringSize_95d88_35 rfl (lv_at hl 2 rfl) ?_
                                refine lv_iadd hx hb dJ13_stringSize_95d88_36 ?_
                                refine k_foldi (y := (15 : Int32)) (by decide) ?_
                                exact re_i hx hb hr hk dJ13_stringSize_95d88_37 (ei (Eq.trans (if_pos c_1) (Eq.trans (if_pos c_2) (Eq.trans (if_pos c_3) (Eq.trans (if_pos c_4) (Eq.trans (if_pos c_5) (Eq.trans (if_pos c_6) (Eq.trans (if_pos c_7) (Eq.trans (if_pos c_8) (Eq.trans (if_pos c_9) (Eq.trans (if_pos c_10) (Eq.trans (if_pos c_11) (Eq.trans (if_pos c_12) (Eq.trans (if_pos c_13) (Eq.trans (if_pos c_14) (if_neg c_15))))))))))))))))
                            · refine lv_iload hx hb dJ13_stringSize_95d88_33 (lv_at hl 0 rfl) ?_
                              refine lv_iload_n hx hb dJ13_stringSize_95d88_35 rfl (lv_at hl 2 rfl) ?_
                              refine lv_iadd hx hb dJ13_stringSize_95d88_36 ?_
                              refine k_foldi (y := (14 : Int32)) (by decide) ?_
                              exact re_i hx hb hr hk dJ13_stringSize_95d88_37 (ei (Eq.trans (if_pos c_1) (Eq.trans (if_pos c_2) (Eq.trans (if_pos c_3) (Eq.trans (if_pos c_4) (Eq.trans (if_pos c_5) (Eq.trans (if_pos c_6) (Eq.trans (if_pos c_7) (Eq.trans (if_pos c_8) (Eq.trans (if_pos c_9) (Eq.trans (if_pos c_10) (Eq.trans (if_pos c_11) (Eq.trans (if_pos c_12) (Eq.trans (if_pos c_13) (if_neg c_14)))))))))))))))
                          · refine lv_iload hx hb dJ13_stringSize_95d88_33 (lv_at hl 0 rfl) ?_
                            refine lv_iload_n hx hb dJ13_stringSize_95d88_35 rfl (lv_at hl 2 rfl) ?_
                            refine lv_iadd hx hb dJ13_stringSize_95d88_36 ?_
                            refine k_foldi (y := (13 : Int32)) (by decide) ?_
                            exact re_i hx hb hr hk dJ13_stringSize_95d88_37 (ei (Eq.trans (if_pos c_1) (Eq.trans (if_pos c_2) (Eq.trans (if_pos c_3) (Eq.trans (if_pos c_4) (Eq.trans (if_pos c_5) (Eq.trans (if_pos c_6) (Eq.trans (if_pos c_7) (Eq.trans (if_pos c_8) (Eq.trans (if_pos c_9) (Eq.trans (if_pos c_10) (Eq.trans (if_pos c_11) (Eq.trans (if_pos c_12) (if_neg c_13))))))))))))))
                        · refine lv_iload hx hb dJ13_stringSize_95d88_33 (lv_at hl 0 rfl) ?_
                          refine lv_iload_n hx hb dJ13_stringSize_95d88_35 rfl (lv_at hl 2 rfl) ?_
                          refine lv_iadd hx hb dJ13_stringSize_95d88_36 ?_
                          refine k_foldi (y := (12 : Int32)) (by decide) ?_
                          exact re_i hx hb hr hk dJ13_stringSize_95d88_37 (ei (Eq.trans (if_pos c_1) (Eq.trans (if_pos c_2) (Eq.trans (if_pos c_3) (Eq.trans (if_pos c_4) (Eq.trans (if_pos c_5) (Eq.trans (if_pos c_6) (Eq.trans (if_pos c_7) (Eq.trans (if_pos c_8) (Eq.trans (if_pos c_9) (Eq.trans (if_pos c_10) (Eq.trans (if_pos c_11) (if_neg c_12)))))))))))))
                      · refine lv_iload hx hb dJ13_stringSize_95d88_33 (lv_at hl 0 rfl) ?_
                        refine lv_iload_n hx hb dJ13_stringSize_95d88_35 rfl (lv_at hl 2 rfl) ?_
                        refine lv_iadd hx hb dJ13_stringSize_95d88_36 ?_
                        refine k_foldi (y := (11 : Int32)) (by decide) ?_
                        exact re_i hx hb hr hk dJ13_stringSize_95d88_37 (ei (Eq.trans (if_pos c_1) (Eq.trans (if_pos c_2) (Eq.trans (if_pos c_3) (Eq.trans (if_pos c_4) (Eq.trans (if_pos c_5) (Eq.trans (if_pos c_6) (Eq.trans (if_pos c_7) (Eq.trans (if_pos c_8) (Eq.trans (if_pos c_9) (Eq.trans (if_pos c_10) (if_neg c_11))))))))))))
                    · refine lv_iload hx hb dJ13_stringSize_95d88_33 (lv_at hl 0 rfl) ?_
                      refine lv_iload_n hx hb dJ13_stringSize_95d88_35 rfl (lv_at hl 2 rfl) ?_
                      refine lv_iadd hx hb dJ13_stringSize_95d88_36 ?_
                      refine k_foldi (y := (10 : Int32)) (by decide) ?_
                      exact re_i hx hb hr hk dJ13_stringSize_95d88_37 (ei (Eq.trans (if_pos c_1) (Eq.trans (if_pos c_2) (Eq.trans (if_pos c_3) (Eq.trans (if_pos c_4) (Eq.trans (if_pos c_5) (Eq.trans (if_pos c_6) (Eq.trans (if_pos c_7) (Eq.trans (if_pos c_8) (Eq.trans (if_pos c_9) (if_neg c_10)))))))))))
                  · refine lv_iload hx hb dJ13_stringSize_95d88_33 (lv_at hl 0 rfl) ?_
                    refine lv_iload_n hx hb dJ13_stringSize_95d88_35 rfl (lv_at hl 2 rfl) ?_
                    refine lv_iadd hx hb dJ13_stringSize_95d88_36 ?_
                    refine k_foldi (y := (9 : Int32)) (by decide) ?_
                    exact re_i hx hb hr hk dJ13_stringSize_95d88_37 (ei (Eq.trans (if_pos c_1) (Eq.trans (if_pos c_2) (Eq.trans (if_pos c_3) (Eq.trans (if_pos c_4) (Eq.trans (if_pos c_5) (Eq.trans (if_pos c_6) (Eq.trans (if_pos c_7) (Eq.trans (if_pos c_8) (if_neg c_9))))))))))
                · refine lv_iload hx hb dJ13_stringSize_95d88_33 (lv_at hl 0 rfl) ?_
                  refine lv_iload_n hx hb dJ13_stringSize_95d88_35 rfl (lv_at hl 2 rfl) ?_
                  refine lv_iadd hx hb dJ13_stringSize_95d88_36 ?_
                  refine k_foldi (y := (8 : Int32)) (by decide) ?_
                  exact re_i hx hb hr hk dJ13_stringSize_95d88_37 (ei (Eq.trans (if_pos c_1) (Eq.trans (if_pos c_2) (Eq.trans (if_pos c_3) (Eq.trans (if_pos c_4) (Eq.trans (if_pos c_5) (Eq.trans (if_pos c_6) (Eq.trans (if_pos c_7) (if_neg c_8)))))))))
              · refine lv_iload hx hb dJ13_stringSize_95d88_33 (lv_at hl 0 rfl) ?_
                refine lv_iload_n hx hb dJ13_stringSize_95d88_35 rfl (lv_at hl 2 rfl) ?_
                refine lv_iadd hx hb dJ13_stringSize_95d88_36 ?_
                refine k_foldi (y := (7 : Int32)) (by decide) ?_
                exact re_i hx hb hr hk dJ13_stringSize_95d88_37 (ei (Eq.trans (if_pos c_1) (Eq.trans (if_pos c_2) (Eq.trans (if_pos c_3) (Eq.trans (if_pos c_4) (Eq.trans (if_pos c_5) (Eq.trans (if_pos c_6) (if_neg c_7))))))))
            · refine lv_iload hx hb dJ13_stringSize_95d88_33 (lv_at hl 0 rfl) ?_
              refine lv_iload_n hx hb dJ13_stringSize_95d88_35 rfl (lv_at hl 2 rfl) ?_
              refine lv_iadd hx hb dJ13_stringSize_95d88_36 ?_
              refine k_foldi (y := (6 : Int32)) (by decide) ?_
              exact re_i hx hb hr hk dJ13_stringSize_95d88_37 (ei (Eq.trans (if_pos c_1) (Eq.trans (if_pos c_2) (Eq.trans (if_pos c_3) (Eq.trans (if_pos c_4) (Eq.trans (if_pos c_5) (if_neg c_6)))))))
          · refine lv_iload hx hb dJ13_stringSize_95d88_33 (lv_at hl 0 rfl) ?_
            refine lv_iload_n hx hb dJ13_stringSize_95d88_35 rfl (lv_at hl 2 rfl) ?_
            refine lv_iadd hx hb dJ13_stringSize_95d88_36 ?_
            refine k_foldi (y := (5 : Int32)) (by decide) ?_
            exact re_i hx hb hr hk dJ13_stringSize_95d88_37 (ei (Eq.trans (if_pos c_1) (Eq.trans (if_pos c_2) (Eq.trans (if_pos c_3) (Eq.trans (if_pos c_4) (if_neg c_5))))))
        · refine lv_iload hx hb dJ13_stringSize_95d88_33 (lv_at hl 0 rfl) ?_
          refine lv_iload_n hx hb dJ13_stringSize_95d88_35 rfl (lv_at hl 2 rfl) ?_
          refine lv_iadd hx hb dJ13_stringSize_95d88_36 ?_
          refine k_foldi (y := (4 : Int32)) (by decide) ?_
          exact re_i hx hb hr hk dJ13_stringSize_95d88_37 (ei (Eq.trans (if_pos c_1) (Eq.trans (if_pos c_2) (Eq.trans (if_pos c_3) (if_neg c_4)))))
      · refine lv_iload hx hb dJ13_stringSize_95d88_33 (lv_at hl 0 rfl) ?_
        refine lv_iload_n hx hb dJ13_stringSize_95d88_35 rfl (lv_at hl 2 rfl) ?_
        refine lv_iadd hx hb dJ13_stringSize_95d88_36 ?_
        refine k_foldi (y := (3 : Int32)) (by decide) ?_
        exact re_i hx hb hr hk dJ13_stringSize_95d88_37 (ei (Eq.trans (if_pos c_1) (Eq.trans (if_pos c_2) (if_neg c_3))))
    · refine lv_iload hx hb dJ13_stringSize_95d88_33 (lv_at hl 0 rfl) ?_
      refine lv_iload_n hx hb dJ13_stringSize_95d88_35 rfl (lv_at hl 2 rfl) ?_
      refine lv_iadd hx hb dJ13_stringSize_95d88_36 ?_
      refine k_foldi (y := (2 : Int32)) (by decide) ?_
      exact re_i hx hb hr hk dJ13_stringSize_95d88_37 (ei (Eq.trans (if_pos c_1) (if_neg c_2)))
  · refine lv_iconst (v := (0 : Int32)) hx hb dJ13_stringSize_95d88_8 (by decide) ?_
    refine lv_istore_n (lv' := [(2, .int (0 : Int32)), (0, .long p0)]) hx hb dJ13_stringSize_95d88_9 rfl hl (Nat.le_of_ble_eq_true rfl) rfl (fun ls hl => ?_)
    refine lv_lload_n hx hb dJ13_stringSize_95d88_10 rfl (lv_at hl 1 rfl) ?_
    refine lv_lneg hx hb dJ13_stringSize_95d88_11 ?_
    refine lv_lstore_n (lv' := [(0, .long (-p0)), (2, .int (0 : Int32))]) hx hb dJ13_stringSize_95d88_12 rfl hl (Nat.le_of_ble_eq_true rfl) rfl (fun ls hl => ?_)
    refine lv_ldc2 (v := (-10 : Int64)) hx hb hown (hw _ bw1523) dJ13_stringSize_95d88_13 ?_
    refine lv_lstore_n (lv' := [(3, .long (-10 : Int64)), (0, .long (-p0)), (2, .int (0 : Int32))]) hx hb dJ13_stringSize_95d88_16 rfl hl (Nat.le_of_ble_eq_true rfl) rfl (fun ls hl => ?_)
    refine lv_iconst (v := (1 : Int32)) hx hb dJ13_stringSize_95d88_17 (by decide) ?_
    refine lv_istore (lv' := [(5, .int (1 : Int32)), (3, .long (-10 : Int64)), (0, .long (-p0)), (2, .int (0 : Int32))]) hx hb dJ13_stringSize_95d88_18 hl (Nat.le_of_ble_eq_true rfl) rfl (fun ls hl => ?_)
    refine lv_iload hx hb dJ13_stringSize_95d88_20 (lv_at hl 0 rfl) ?_
    refine lv_bipush (v := (19 : Int32)) hx hb dJ13_stringSize_95d88_22 (by decide) ?_
    refine lv_icmp_ge (tgt := 50) hx hb dJ13_stringSize_95d88_24 (by decide) (fun c_x => absurd c_x (by decide)) (fun _ => ?_)
    refine lv_lload_n hx hb dJ13_stringSize_95d88_27 rfl (lv_at hl 2 rfl) ?_
    refine lv_lload_n hx hb dJ13_stringSize_95d88_28 rfl (lv_at hl 1 rfl) ?_
    refine W.lcmp hx hb dJ13_stringSize_95d88_29 ?_
    refine lv_if_le (tgt := 38) hx hb dJ13_stringSize_95d88_30 (by decide) (fun c_20 => ?_) (fun c_20 => ?_)
    · refine lv_ldc2 (v := (10 : Int64)) hx hb hown (hw _ bw1524) dJ13_stringSize_95d88_38 ?_
      refine lv_lload_n hx hb dJ13_stringSize_95d88_41 rfl (lv_at hl 1 rfl) ?_
      refine lv_lmul hx hb dJ13_stringSize_95d88_42 ?_
      refine k_foldl (y := (-100 : Int64)) (by decide) ?_
      refine lv_lstore_n (lv' := [(3, .long (-100 : Int64)), (5, .int (1 : Int32)), (0, .long (-p0)), (2, .int (0 : Int32))]) hx hb dJ13_stringSize_95d88_43 rfl hl (Nat.le_of_ble_eq_true rfl) rfl (fun ls hl => ?_)
      refine lv_iinc (v := (2 : Int32)) (lv' := [(5, .int (2 : Int32)), (3, .long (-100 : Int64)), (0, .long (-p0)), (2, .int (0 : Int32))]) hx hb dJ13_stringSize_95d88_44 hl (k := 1) rfl (by first | rfl | decide) (Nat.le_of_ble_eq_true rfl) rfl (fun ls hl => ?_)
      refine lv_goto (tgt := 20) hx hb dJ13_stringSize_95d88_47 (by decide) ?_
      refine lv_iload hx hb dJ13_stringSize_95d88_20 (lv_at hl 0 rfl) ?_
      refine lv_bipush (v := (19 : Int32)) hx hb dJ13_stringSize_95d88_22 (by decide) ?_
      refine lv_icmp_ge (tgt := 50) hx hb dJ13_stringSize_95d88_24 (by decide) (fun c_x => absurd c_x (by decide)) (fun _ => ?_)
      refine lv_lload_n hx hb dJ13_stringSize_95d88_27 rfl (lv_at hl 2 rfl) ?_
      refine lv_lload_n hx hb dJ13_stringSize_95d88_28 rfl (lv_at hl 1 rfl) ?_
      refine W.lcmp hx hb dJ13_stringSize_95d88_29 ?_
      refine lv_if_le (tgt := 38) hx hb dJ13_stringSize_95d88_30 (by decide) (fun c_21 => ?_) (fun c_21 => ?_)
      · refine lv_ldc2 (v := (10 : Int64)) hx hb hown (hw _ bw1524) dJ13_stringSize_95d88_38 ?_
        refine lv_lload_n hx hb dJ13_stringSize_95d88_41 rfl (lv_at hl 1 rfl) ?_
        refine lv_lmul hx hb dJ13_stringSize_95d88_42 ?_
        refine k_foldl (y := (-1000 : Int64)) (by decide) ?_
        refine lv_lstore_n (lv' := [(3, .long (-1000 : Int64)), (5, .int (2 : Int32)), (0, .long (-p0)), (2, .int (0 : Int32))]) hx hb dJ13_stringSize_95d88_43 rfl hl (Nat.le_of_ble_eq_true rfl) rfl (fun ls hl => ?_)
        refine lv_iinc (v := (3 : Int32)) (lv' := [(5, .int (3 : Int32)), (3, .long (-1000 : Int64)), (0, .long (-p0)), (2, .int (0 : Int32))]) hx hb dJ13_stringSize_95d88_44 hl (k := 1) rfl (by first | rfl | decide) (Nat.le_of_ble_eq_true rfl) rfl (fun ls hl => ?_)
        refine lv_goto (tgt := 20) hx hb dJ13_stringSize_95d88_47 (by decide) ?_
        refine lv_iload hx hb dJ13_stringSize_95d88_20 (lv_at hl 0 rfl) ?_
        refine lv_bipush (v := (19 : Int32)) hx hb dJ13_stringSize_95d88_22 (by decide) ?_
        refine lv_icmp_ge (tgt := 50) hx hb dJ13_stringSize_95d88_24 (by decide) (fun c_x => absurd c_x (by decide)) (fun _ => ?_)
        refine lv_lload_n hx hb dJ13_stringSize_95d88_27 rfl (lv_at hl 2 rfl) ?_
        refine lv_lload_n hx hb dJ13_stringSize_95d88_28 rfl (lv_at hl 1 rfl) ?_
        refine W.lcmp hx hb dJ13_stringSize_95d88_29 ?_
        refine lv_if_le (tgt := 38) hx hb dJ13_stringSize_95d88_30 (by decide) (fun c_22 => ?_) (fun c_22 => ?_)
        · refine lv_ldc2 (v := (10 : Int64)) hx hb hown (hw _ bw1524) dJ13_stringSize_95d88_38 ?_
          refine lv_lload_n hx hb dJ13_stringSize_95d88_41 rfl (lv_at hl 1 rfl) ?_
          refine lv_lmul hx hb dJ13_stringSize_95d88_42 ?_
          refine k_foldl (y := (-10000 : Int64)) (by decide) ?_
          refine lv_lstore_n (lv' := [(3, .long (-10000 : Int64)), (5, .int (3 : Int32)), (0, .long (-p0)), (2, .int (0 : Int32))]) hx hb dJ13_stringSize_95d88_43 rfl hl (Nat.le_of_ble_eq_true rfl) rfl (fun ls hl => ?_)
          refine lv_iinc (v := (4 : Int32)) (lv' := [(5, .int (4 : Int32)), (3, .long (-10000 : Int64)), (0, .long (-p0)), (2, .int (0 : Int32))]) hx hb dJ13_stringSize_95d88_44 hl (k := 1) rfl (by first | rfl | decide) (Nat.le_of_ble_eq_true rfl) rfl (fun ls hl => ?_)
          refine lv_goto (tgt := 20) hx hb dJ13_stringSize_95d88_47 (by decide) ?_
          refine lv_iload hx hb dJ13_stringSize_95d88_20 (lv_at hl 0 rfl) ?_
          refine lv_bipush (v := (19 : Int32)) hx hb dJ13_stringSize_95d88_22 (by decide) ?_
          refine lv_icmp_ge (tgt := 50) hx hb dJ13_stringSize_95d88_24 (by decide) (fun c_x => absurd c_x (by decide)) (fun _ => ?_)
          refine lv_lload_n hx hb dJ13_stringSize_95d88_27 rfl (lv_at hl 2 rfl) ?_
          refine lv_lload_n hx hb dJ13_stringSize_95d88_28 rfl (lv_at hl 1 rfl) ?_
          refine W.lcmp hx hb dJ13_stringSize_95d88_29 ?_
          refine lv_if_le (tgt := 38) hx hb dJ13_stringSize_95d88_30 (by decide) (fun c_23 => ?_) (fun c_23 => ?_)
          · refine lv_ldc2 (v := (10 : Int64)) hx hb hown (hw _ bw1524) dJ13_stringSize_95d88_38 ?_
            refine lv_lload_n hx hb dJ13_stringSize_95d88_41 rfl (lv_at hl 1 rfl) ?_
            refine lv_lmul hx hb dJ13_stringSize_95d88_42 ?_
            refine k_foldl (y := (-100000 : Int64)) (by decide) ?_
            refine lv_lstore_n (lv' := [(3, .long (-100000 : Int64)), (5, .int (4 : Int32)), (0, .long (-p0)), (2, .int (0 : Int32))]) hx hb dJ13_stringSize_95d88_43 rfl hl (Nat.le_of_ble_eq_true rfl) rfl (fun ls hl => ?_)
            refine lv_iinc (v := (5 : Int32)) (lv' := [(5, .int (5 : Int32)), (3, .long (-100000 : Int64)), (0, .long (-p0)), (2, .int (0 : Int32))]) hx hb dJ13_stringSize_95d88_44 hl (k := 1) rfl (by first | rfl | decide) (Nat.le_of_ble_eq_true rfl) rfl (fun ls hl => ?_)
            refine lv_goto (tgt := 20) hx hb dJ13_stringSize_95d88_47 (by decide) ?_
            refine lv_iload hx hb dJ13_stringSize_95d88_20 (lv_at hl 0 rfl) ?_
            refine lv_bipush (v := (19 : Int32)) hx hb dJ13_stringSize_95d88_22 (by decide) ?_
            refine lv_icmp_ge (tgt := 50) hx hb dJ13_stringSize_95d88_24 (by decide) (fun c_x => absurd c_x (by decide)) (fun _ => ?_)
            refine lv_lload_n hx hb dJ13_stringSize_95d88_27 rfl (lv_at hl 2 rfl) ?_
            refine lv_lload_n hx hb dJ13_stringSize_95d88_28 rfl (lv_at hl 1 rfl) ?_
            refine W.lcmp hx hb dJ13_stringSize_95d88_29 ?_
            refine lv_if_le (tgt := 38) hx hb dJ13_stringSize_95d88_30 (by decide) (fun c_24 => ?_) (fun c_24 => ?_)
            · refine lv_ldc2 (v := (10 : Int64)) hx hb hown (hw _ bw1524) dJ13_stringSize_95d88_38 ?_
              refine lv_lload_n hx hb dJ13_stringSize_95d88_41 rfl (lv_at hl 1 rfl) ?_
              refine lv_lmul hx hb dJ13_stringSize_95d88_42 ?_
              refine k_foldl (y := (-1000000 : Int64)) (by decide) ?_
              refine lv_lstore_n (lv' := [(3, .long (-1000000 : Int64)), (5, .int (5 : Int32)), (0, .long (-p0)), (2, .int (0 : Int32))]) hx hb dJ13_stringSize_95d88_43 rfl hl (Nat.le_of_ble_eq_true rfl) rfl (fun ls hl => ?_)
              refine lv_iinc (v := (6 : Int32)) (lv' := [(5, .int (6 : Int32)), (3, .long (-1000000 : Int64)), (0, .long (-p0)), (2, .int (0 : Int32))]) hx hb dJ13_stringSize_95d88_44 hl (k := 1) rfl (by first | rfl | decide) (Nat.le_of_ble_eq_true rfl) rfl (fun ls hl => ?_)
              refine lv_goto (tgt := 20) hx hb dJ13_stringSize_95d88_47 (by decide) ?_
              refine lv_iload hx hb dJ13_stringSize_95d88_20 (lv_at hl 0 rfl) ?_
              refine lv_bipush (v := (19 : Int32)) hx hb dJ13_stringSize_95d88_22 (by decide) ?_
              refine lv_icmp_ge (tgt := 50) hx hb dJ13_stringSize_95d88_24 (by decide) (fun c_x => absurd c_x (by decide)) (fun _ => ?_)
              refine lv_lload_n hx hb dJ13_stringSize_95d88_27 rfl (lv_at hl 2 rfl) ?_
              refine lv_lload_n hx hb dJ13_stringSize_95d88_28 rfl (lv_at hl 1 rfl) ?_
              refine W.lcmp hx hb dJ13_stringSize_95d88_29 ?_
              refine lv_if_le (tgt := 38) hx hb dJ13_stringSize_95d88_30 (by decide) (fun c_25 => ?_) (fun c_25 => ?_)
              · refine lv_ldc2 (v := (10 : Int64)) hx hb hown (hw _ bw1524) dJ13_stringSize_95d88_38 ?_
                refine lv_lload_n hx hb dJ13_stringSize_95d88_41 rfl (lv_at hl 1 rfl) ?_
                refine lv_lmul hx hb dJ13_stringSize_95d88_42 ?_
                refine k_foldl (y := (-10000000 : Int64)) (by decide) ?_
                refine lv_lstore_n (lv' := [(3, .long (-10000000 : Int64)), (5, .int (6 : Int32)), (0, .long (-p0)), (2, .int (0 : Int32))]) hx hb dJ13_stringSize_95d88_43 rfl hl (Nat.le_of_ble_eq_true rfl) rfl (fun ls hl => ?_)
                refine lv_iinc (v := (7 : Int32)) (lv' := [(5, .int (7 : Int32)), (3, .long (-10000000 : Int64)), (0, .long (-p0)), (2, .int (0 : Int32))]) hx hb dJ13_stringSize_95d88_44 hl (k := 1) rfl (by first | rfl | decide) (Nat.le_of_ble_eq_true rfl) rfl (fun ls hl => ?_)
                refine lv_goto (tgt := 20) hx hb dJ13_stringSize_95d88_47 (by decide) ?_
                refine lv_iload hx hb dJ13_stringSize_95d88_20 (lv_at hl 0 rfl) ?_
                refine lv_bipush (v := (19 : Int32)) hx hb dJ13_stringSize_95d88_22 (by decide) ?_
                refine lv_icmp_ge (tgt := 50) hx hb dJ13_stringSize_95d88_24 (by decide) (fun c_x => absurd c_x (by decide)) (fun _ => ?_)
                refine lv_lload_n hx hb dJ13_stringSize_95d88_27 rfl (lv_at hl 2 rfl) ?_
                refine lv_lload_n hx hb dJ13_stringSize_95d88_28 rfl (lv_at hl 1 rfl) ?_
                refine W.lcmp hx hb dJ13_stringSize_95d88_29 ?_
                refine lv_if_le (tgt := 38) hx hb dJ13_stringSize_95d88_30 (by decide) (fun c_26 => ?_) (fun c_26 => ?_)
                · refine lv_ldc2 (v := (10 : Int64)) hx hb hown (hw _ bw1524) dJ13_stringSize_95d88_38 ?_
                  refine lv_lload_n hx hb dJ13_stringSize_95d88_41 rfl (lv_at hl 1 rfl) ?_
                  refine lv_lmul hx hb dJ13_stringSize_95d88_42 ?_
                  refine k_foldl (y := (-100000000 : Int64)) (by decide) ?_
                  refine lv_lstore_n (lv' := [(3, .long (-100000000 : Int64)), (5, .int (7 : Int32)), (0, .long (-p0)), (2, .int (0 : Int32))]) hx hb dJ13_stringSize_95d88_43 rfl hl (Nat.le_of_ble_eq_true rfl) rfl (fun ls hl => ?_)
                  refine lv_iinc (v := (8 : Int32)) (lv' := [(5, .int (8 : Int32)), (3, .long (-100000000 : Int64)), (0, .long (-p0)), (2, .int (0 : Int32))]) hx hb dJ13_stringSize_95d88_44 hl (k := 1) rfl (by first | rfl | decide) (Nat.le_of_ble_eq_true rfl) rfl (fun ls hl => ?_)
                  refine lv_goto (tgt := 20) hx hb dJ13_stringSize_95d88_47 (by decide) ?_
                  refine lv_iload hx hb dJ13_stringSize_95d88_20 (lv_at hl 0 rfl) ?_
                  refine lv_bipush (v := (19 : Int32)) hx hb dJ13_stringSize_95d88_22 (by decide) ?_
                  refine lv_icmp_ge (tgt := 50) hx hb dJ13_stringSize_95d88_24 (by decide) (fun c_x => absurd c_x (by decide)) (fun _ => ?_)
                  refine lv_lload_n hx hb dJ13_stringSize_95d88_27 rfl (lv_at hl 2 rfl) ?_
                  refine lv_lload_n hx hb dJ13_stringSize_95d88_28 rfl (lv_at hl 1 rfl) ?_
                  refine W.lcmp hx hb dJ13_stringSize_95d88_29 ?_
                  refine lv_if_le (tgt := 38) hx hb dJ13_stringSize_95d88_30 (by decide) (fun c_27 => ?_) (fun c_27 => ?_)
                  · refine lv_ldc2 (v := (10 : Int64)) hx hb hown (hw _ bw1524) dJ13_stringSize_95d88_38 ?_
                    refine lv_lload_n hx hb dJ13_stringSize_95d88_41 rfl (lv_at hl 1 rfl) ?_
                    refine lv_lmul hx hb dJ13_stringSize_95d88_42 ?_
                    refine k_foldl (y := (-1000000000 : Int64)) (by decide) ?_
                    refine lv_lstore_n (lv' := [(3, .long (-1000000000 : Int64)), (5, .int (8 : Int32)), (0, .long (-p0)), (2, .int (0 : Int32))]) hx hb dJ13_stringSize_95d88_43 rfl hl (Nat.le_of_ble_eq_true rfl) rfl (fun ls hl => ?_)
                    refine lv_iinc (v := (9 : Int32)) (lv' := [(5, .int (9 : Int32)), (3, .long (-1000000000 : Int64)), (0, .long (-p0)), (2, .int (0 : Int32))]) hx hb dJ13_stringSize_95d88_44 hl (k := 1) rfl (by first | rfl | decide) (Nat.le_of_ble_eq_true rfl) rfl (fun ls hl => ?_)
                    refine lv_goto (tgt := 20) hx hb dJ13_stringSize_95d88_47 (by decide) ?_
                    refine lv_iload hx hb dJ13_stringSize_95d88_20 (lv_at hl 0 rfl) ?_
                    refine lv_bipush (v := (19 : Int32)) hx hb dJ13_stringSize_95d88_22 (by decide) ?_
                    refine lv_icmp_ge (tgt := 50) hx hb dJ13_stringSize_95d88_24 (by decide) (fun c_x => absurd c_x (by decide)) (fun _ => ?_)
                    refine lv_lload_n hx hb dJ13_stringSize_95d88_27 rfl (lv_at hl 2 rfl) ?_
                    refine lv_lload_n hx hb dJ13_stringSize_95d88_28 rfl (lv_at hl 1 rfl) ?_
                    refine W.lcmp hx hb dJ13_stringSize_95d88_29 ?_
                    refine lv_if_le (tgt := 38) hx hb dJ13_stringSize_95d88_30 (by decide) (fun c_28 => ?_) (fun c_28 => ?_)
                    · refine lv_ldc2 (v := (10 : Int64)) hx hb hown (hw _ bw1524) dJ13_stringSize_95d88_38 ?_
                      refine lv_lload_n hx hb dJ13_stringSize_95d88_41 rfl (lv_at hl 1 rfl) ?_
                      refine lv_lmul hx hb dJ13_stringSize_95d88_42 ?_
                      refine k_foldl (y := (-10000000000 : Int64)) (by decide) ?_
                      refine lv_lstore_n (lv' := [(3, .long (-10000000000 : Int64)), (5, .int (9 : Int32)), (0, .long (-p0)), (2, .int (0 : Int32))]) hx hb dJ13_stringSize_95d88_43 rfl hl (Nat.le_of_ble_eq_true rfl) rfl (fun ls hl => ?_)
                      refine lv_iinc (v := (10 : Int32)) (lv' := [(5, .int (10 : Int32)), (3, .long (-10000000000 : Int64)), (0, .long (-p0)), (2, .int (0 : Int32))]) hx hb dJ13_stringSize_95d88_44 hl (k := 1) rfl (by first | rfl | decide) (Nat.le_of_ble_eq_true rfl) rfl (fun ls hl => ?_)
                      refine lv_goto (tgt := 20) hx hb dJ13_stringSize_95d88_47 (by decide) ?_
                      refine lv_iload hx hb dJ13_stringSize_95d88_20 (lv_at hl 0 rfl) ?_
                      refine lv_bipush (v := (19 : Int32)) hx hb dJ13_stringSize_95d88_22 (by decide) ?_
                      refine lv_icmp_ge (tgt := 50) hx hb dJ13_stringSize_95d88_24 (by decide) (fun c_x => absurd c_x (by decide)) (fun _ => ?_)
                      refine lv_lload_n hx hb dJ13_stringSize_95d88_27 rfl (lv_at hl 2 rfl) ?_
                      refine lv_lload_n hx hb dJ13_stringSize_95d88_28 rfl (lv_at hl 1 rfl) ?_
                      refine W.lcmp hx hb dJ13_stringSize_95d88_29 ?_
                      refine lv_if_le (tgt := 38) hx hb dJ13_stringSize_95d88_30 (by decide) (fun c_29 => ?_) (fun c_29 => ?_)
                      · refine lv_ldc2 (v := (10 : Int64)) hx hb hown (hw _ bw1524) dJ13_stringSize_95d88_38 ?_
                        refine lv_lload_n hx hb dJ13_stringSize_95d88_41 rfl (lv_at hl 1 rfl) ?_
                        refine lv_lmul hx hb dJ13_stringSize_95d88_42 ?_
                        refine k_foldl (y := (-100000000000 : Int64)) (by decide) ?_
                        refine lv_lstore_n (lv' := [(3, .long (-100000000000 : Int64)), (5, .int (10 : Int32)), (0, .long (-p0)), (2, .int (0 : Int32))]) hx hb dJ13_stringSize_95d88_43 rfl hl (Nat.le_of_ble_eq_true rfl) rfl (fun ls hl => ?_)
                        refine lv_iinc (v := (11 : Int32)) (lv' := [(5, .int (11 : Int32)), (3, .long (-100000000000 : Int64)), (0, .long (-p0)), (2, .int (0 : Int32))]) hx hb dJ13_stringSize_95d88_44 hl (k := 1) rfl (by first | rfl | decide) (Nat.le_of_ble_eq_true rfl) rfl (fun ls hl => ?_)
                        refine lv_goto (tgt := 20) hx hb dJ13_stringSize_95d88_47 (by decide) ?_
                        refine lv_iload hx hb dJ13_stringSize_95d88_20 (lv_at hl 0 rfl) ?_
                        refine lv_bipush (v := (19 : Int32)) hx hb dJ13_stringSize_95d88_22 (by decide) ?_
                        refine lv_icmp_ge (tgt := 50) hx hb dJ13_stringSize_95d88_24 (by decide) (fun c_x => absurd c_x (by decide)) (fun _ => ?_)
                        refine lv_lload_n hx hb dJ13_stringSize_95d88_27 rfl (lv_at hl 2 rfl) ?_
                        refine lv_lload_n hx hb dJ13_stringSize_95d88_28 rfl (lv_at hl 1 rfl) ?_
                        refine W.lcmp hx hb dJ13_stringSize_95d88_29 ?_
                        refine lv_if_le (tgt := 38) hx hb dJ13_stringSize_95d88_30 (by decide) (fun c_30 => ?_) (fun c_30 => ?_)
                        · refine lv_ldc2 (v := (10 : Int64)) hx hb hown (hw _ bw1524) dJ13_stringSize_95d88_38 ?_
                          refine lv_lload_n hx hb dJ13_stringSize_95d88_41 rfl (lv_at hl 1 rfl) ?_
                          refine lv_lmul hx hb dJ13_stringSize_95d88_42 ?_
                          refine k_foldl (y := (-1000000000000 : Int64)) (by decide) ?_
                          refine lv_lstore_n (lv' := [(3, .long (-1000000000000 : Int64)), (5, .int (11 : Int32)), (0, .long (-p0)), (2, .int (0 : Int32))]) hx hb dJ13_stringSize_95d88_43 rfl hl (Nat.le_of_ble_eq_true rfl) rfl (fun ls hl => ?_)
                          refine lv_iinc (v := (12 : Int32)) (lv' := [(5, .int (12 : Int32)), (3, .long (-1000000000000 : Int64)), (0, .long (-p0)), (2, .int (0 : Int32))]) hx hb dJ13_stringSize_95d88_44 hl (k := 1) rfl (by first | rfl | decide) (Nat.le_of_ble_eq_true rfl) rfl (fun ls hl => ?_)
                          refine lv_goto (tgt := 20) hx hb dJ13_stringSize_95d88_47 (by decide) ?_
                          refine lv_iload hx hb dJ13_stringSize_95d88_20 (lv_at hl 0 rfl) ?_
                          refine lv_bipush (v := (19 : Int32)) hx hb dJ13_stringSize_95d88_22 (by decide) ?_
                          refine lv_icmp_ge (tgt := 50) hx hb dJ13_stringSize_95d88_24 (by decide) (fun c_x => absurd c_x (by decide)) (fun _ => ?_)
                          refine lv_lload_n hx hb dJ13_stringSize_95d88_27 rfl (lv_at hl 2 rfl) ?_
                          refine lv_lload_n hx hb dJ13_stringSize_95d88_28 rfl (lv_at hl 1 rfl) ?_
                          refine W.lcmp hx hb dJ13_stringSize_95d88_29 ?_
                          refine lv_if_le (tgt := 38) hx hb dJ13_stringSize_95d88_30 (by decide) (fun c_31 => ?_) (fun c_31 => ?_)
                          · refine lv_ldc2 (v := (10 : Int64)) hx hb hown (hw _ bw1524) dJ13_stringSize_95d88_38 ?_
                            refine lv_lload_n hx hb dJ13_stringSize_95d88_41 rfl (lv_at hl 1 rfl) ?_
                            refine lv_lmul hx hb dJ13_stringSize_95d88_42 ?_
                            refine k_foldl (y := (-10000000000000 : Int64)) (by decide) ?_
                            refine lv_lstore_n (lv' := [(3, .long (-10000000000000 : Int64)), (5, .int (12 : Int32)), (0, .long (-p0)), (2, .int (0 : Int32))]) hx hb dJ13_stringSize_95d88_43 rfl hl (Nat.le_of_ble_eq_true rfl) rfl (fun ls hl => ?_)
                            refine lv_iinc (v := (13 : Int32)) (lv' := [(5, .int (13 : Int32)), (3, .long (-10000000000000 : Int64)), (0, .long (-p0)), (2, .int (0 : Int32))]) hx hb dJ13_stringSize_95d88_44 hl (k := 1) rfl (by first | rfl | decide) (Nat.le_of_ble_eq_true rfl) rfl (fun ls hl => ?_)
                            refine lv_goto (tgt := 20) hx hb dJ13_stringSize_95d88_47 (by decide) ?_
                            refine lv_iload hx hb dJ13_stringSize_95d88_20 (lv_at hl 0 rfl) ?_
                            refine lv_bipush (v := (19 : Int32)) hx hb dJ13_stringSize_95d88_22 (by decide) ?_
                            refine lv_icmp_ge (tgt := 50) hx hb dJ13_stringSize_95d88_24 (by decide) (fun c_x => absurd c_x (by decide)) (fun _ => ?_)
                            refine lv_lload_n hx hb dJ13_stringSize_95d88_27 rfl (lv_at hl 2 rfl) ?_
                            refine lv_lload_n hx hb dJ13_stringSize_95d88_28 rfl (lv_at hl 1 rfl) ?_
                            refine W.lcmp hx hb dJ13_stringSize_95d88_29 ?_
                            refine lv_if_le (tgt := 38) hx hb dJ13_stringSize_95d88_30 (by decide) (fun c_32 => ?_) (fun c_32 => ?_)
                            · refine lv_ldc2 (v := (10 : Int64)) hx hb hown (hw _ bw1524) dJ13_stringSize_95d88_38 ?_
                              refine lv_lload_n hx hb dJ13_stringSize_95d88_41 rfl (lv_at hl 1 rfl) ?_
                              refine lv_lmul hx hb dJ13_stringSize_95d88_42 ?_
                              refine k_foldl (y := (-100000000000000 : Int64)) (by decide) ?_
                              refine lv_lstore_n (lv' := [(3, .long (-100000000000000 : Int64)), (5, .int (13 : Int32)), (0, .long (-p0)), (2, .int (0 : Int32))]) hx hb dJ13_stringSize_95d88_43 rfl hl (Nat.le_of_ble_eq_true rfl) rfl (fun ls hl => ?_)
                              refine lv_iinc (v := (14 : Int32)) (lv' := [(5, .int (14 : Int32)), (3, .long (-100000000000000 : Int64)), (0, .long (-p0)), (2, .int (0 : Int32))]) hx hb dJ13_stringSize_95d88_44 hl (k := 1) rfl (by first | rfl | decide) (Nat.le_of_ble_eq_true rfl) rfl (fun ls hl => ?_)
                              refine lv_goto (tgt := 20) hx hb dJ13_stringSize_95d88_47 (by decide) ?_
                              refine lv_iload hx hb dJ13_stringSize_95d88_20 (lv_at hl 0 rfl) ?_
                              refine lv_bipush (v := (19 : Int32)) hx hb dJ13_stringSize_95d88_22 (by decide) ?_
                              refine lv_icmp_ge (tgt := 50) hx hb dJ13_stringSize_95d88_24 (by decide) (fun c_x => absurd c_x (by decide)) (fun _ => ?_)
                              refine lv_lload_n hx hb dJ13_stringSize_95d88_27 rfl (lv_at hl 2 rfl) ?_
                              refine lv_lload_n hx hb dJ13_stringSize_95d88_28 rfl (lv_at hl 1 rfl) ?_
                              refine W.lcmp hx hb dJ13_stringSize_95d88_29 ?_
                              refine lv_if_le (tgt := 38) hx hb dJ13_stringSize_95d88_30 (by decide) (fun c_33 => ?_) (fun c_33 => ?_)
                              · refine lv_ldc2 (v := (10 : Int64)) hx hb hown (hw _ bw1524) dJ13_stringSize_95d88_38 ?_
                                refine lv_lload_n hx hb dJ13_stringSize_95d88_41 rfl (lv_at hl 1 rfl) ?_
                                refine lv_lmul hx hb dJ13_stringSize_95d88_42 ?_
                                refine k_foldl (y := (-1000000000000000 : Int64)) (by decide) ?_
                                refine lv_lstore_n (lv' := [(3, .long (-1000000000000000 : Int64)), (5, .int (14 : Int32)), (0, .long (-p0)), (2, .int (0 : Int32))]) hx hb dJ13_stringSize_95d88_43 rfl hl (Nat.le_of_ble_eq_true rfl) rfl (fun ls hl => ?_)
                                refine lv_iinc (v := (15 : Int32)) (lv' := [(5, .int (15 : Int32)), (3, .long (-1000000000000000 : Int64)), (0, .long (-p0)), (2, .int (0 : Int32))]) hx hb dJ13_stringSize_95d88_44 hl (k := 1) rfl (by first | rfl | decide) (Nat.le_of_ble_eq_true rfl) rfl (fun ls hl => ?_)
                                refine lv_goto (tgt := 20) hx hb dJ13_stringSize_95d88_47 (by decide) ?_
                                refine lv_iload hx hb dJ13_stringSize_95d88_20 (lv_at hl 0 rfl) ?_
                                refine lv_bipush (v := (19 : Int32)) hx hb dJ13_stringSize_95d88_22 (by decide) ?_
                                refine lv_icmp_ge (tgt := 50) hx hb dJ13_stringSize_95d88_24 (by decide) (fun c_x => absurd c_x (by decide)) (fun _ => ?_)
                                refine lv_lload_n hx hb dJ13_stringSize_95d88_27 rfl (lv_at hl 2 rfl) ?_
                                refine lv_lload_n hx hb dJ13_stringSize_95d88_28 rfl (lv_at hl 1 rfl) ?_
                                refine W.lcmp hx hb dJ13_stringSize_95d88_29 ?_
                                refine lv_if_le (tgt := 38) hx hb dJ13_stringSize_95d88_30 (by decide) (fun c_34 => ?_) (fun c_34 => ?_)
                                · refine lv_ldc2 (v := (10 : Int64)) hx hb hown (hw _ bw1524) dJ13_stringSize_95d88_38 ?_
                                  refine lv_lload_n hx hb dJ13_stringSize_95d88_41 rfl (lv_at hl 1 rfl) ?_
                                  refine lv_lmul hx hb dJ13_stringSize_95d88_42 ?_
                                  refine k_foldl (y := (-10000000000000000 : Int64)) (by decide) ?_
                                  refine lv_lstore_n (lv' := [(3, .long (-10000000000000000 : Int64)), (5, .int (15 : Int32)), (0, .long (-p0)), (2, .int (0 : Int32))]) hx hb dJ13_stringSize_95d88_43 rfl hl (Nat.le_of_ble_eq_true rfl) rfl (fun ls hl => ?_)
                                  refine lv_iinc (v := (16 : Int32)) (lv' := [(5, .int (16 : Int32)), (3, .long (-10000000000000000 : Int64)), (0, .long (-p0)), (2, .int (0 : Int32))]) hx hb dJ13_stringSize_95d88_44 hl (k := 1) rfl (by first | rfl | decide) (Nat.le_of_ble_eq_true rfl) rfl (fun ls hl => ?_)
                                  refine lv_goto (tgt := 20) hx hb dJ13_stringSize_95d88_47 (by decide) ?_
                                  refine lv_iload hx hb dJ13_stringSize_95d88_20 (lv_at hl 0 rfl) ?_
                                  refine lv_bipush (v := (19 : Int32)) hx hb dJ13_stringSize_95d88_22 (by decide) ?_
                                  refine lv_icmp_ge (tgt := 50) hx hb dJ13_stringSize_95d88_24 (by decide) (fun c_x => absurd c_x (by decide)) (fun _ => ?_)
                                  refine lv_lload_n hx hb dJ13_stringSize_95d88_27 rfl (lv_at hl 2 rfl) ?_
                                  refine lv_lload_n hx hb dJ13_stringSize_95d88_28 rfl (lv_at hl 1 rfl) ?_
                                  refine W.lcmp hx hb dJ13_stringSize_95d88_29 ?_
                                  refine lv_if_le (tgt := 38) hx hb dJ13_stringSize_95d88_30 (by decide) (fun c_35 => ?_) (fun c_35 => ?_)
                                  · refine lv_ldc2 (v := (10 : Int64)) hx hb hown (hw _ bw1524) dJ13_stringSize_95d88_38 ?_
                                    refine lv_lload_n hx hb dJ13_stringSize_95d88_41 rfl (lv_at hl 1 rfl) ?_
                                    refine lv_lmul hx hb dJ13_stringSize_95d88_42 ?_
                                    refine k_foldl (y := (-100000000000000000 : Int64)) (by decide) ?_
                                    refine lv_lstore_n (lv' := [(3, .long (-100000000000000000 : Int64)), (5, .int (16 : Int32)), (0, .long (-p0)), (2, .int (0 : Int32))]) hx hb dJ13_stringSize_95d88_43 rfl hl (Nat.le_of_ble_eq_true rfl) rfl (fun ls hl => ?_)
                                    refine lv_iinc (v := (17 : Int32)) (lv' := [(5, .int (17 : Int32)), (3, .long (-100000000000000000 : Int64)), (0, .long (-p0)), (2, .int (0 : Int32))]) hx hb dJ13_stringSize_95d88_44 hl (k := 1) rfl (by first | rfl | decide) (Nat.le_of_ble_eq_true rfl) rfl (fun ls hl => ?_)
                                    refine lv_goto (tgt := 20) hx hb dJ13_stringSize_95d88_47 (by decide) ?_
                                    refine lv_iload hx hb dJ13_stringSize_95d88_20 (lv_at hl 0 rfl) ?_
                                    refine lv_bipush (v := (19 : Int32)) hx hb dJ13_stringSize_95d88_22 (by decide) ?_
                                    refine lv_icmp_ge (tgt := 50) hx hb dJ13_stringSize_95d88_24 (by decide) (fun c_x => absurd c_x (by decide)) (fun _ => ?_)
                                    refine lv_lload_n hx hb dJ13_stringSize_95d88_27 rfl (lv_at hl 2 rfl) ?_
                                    refine lv_lload_n hx hb dJ13_stringSize_95d88_28 rfl (lv_at hl 1 rfl) ?_
                                    refine W.lcmp hx hb dJ13_stringSize_95d88_29 ?_
                                    refine lv_if_le (tgt := 38) hx hb dJ13_stringSize_95d88_30 (by decide) (fun c_36 => ?_) (fun c_36 => ?_)
                                    · refine lv_ldc2 (v := (10 : Int64)) hx hb hown (hw _ bw1524) dJ13_stringSize_95d88_38 ?_
                                      refine lv_lload_n hx hb dJ13_stringSize_95d88_41 rfl (lv_at hl 1 rfl) ?_
                                      refine lv_lmul hx hb dJ13_stringSize_95d88_42 ?_
                                      refine k_foldl (y := (-1000000000000000000 : Int64)) (by decide) ?_
                                      refine lv_lstore_n (lv' := [(3, .long (-1000000000000000000 : Int64)), (5, .int (17 : Int32)), (0, .long (-p0)), (2, .int (0 : Int32))]) hx hb dJ13_stringSize_95d88_43 rfl hl (Nat.le_of_ble_eq_true rfl) rfl (fun ls hl => ?_)
                                      refine lv_iinc (v := (18 : Int32)) (lv' := [(5, .int (18 : Int32)), (3, .long (-1000000000000000000 : Int64)), (0, .long (-p0)), (2, .int (0 : Int32))]) hx hb dJ13_stringSize_95d88_44 hl (k := 1) rfl (by first | rfl | decide) (Nat.le_of_ble_eq_true rfl) rfl (fun ls hl => ?_)
                                      refine lv_goto (tgt := 20) hx hb dJ13_stringSize_95d88_47 (by decide) ?_
                                      refine lv_iload hx hb dJ13_stringSize_95d88_20 (lv_at hl 0 rfl) ?_
                                      refine lv_bipush (v := (19 : Int32)) hx hb dJ13_stringSize_95d88_22 (by decide) ?_
                                      refine lv_icmp_ge (tgt := 50) hx hb dJ13_stringSize_95d88_24 (by decide) (fun c_x => absurd c_x (by decide)) (fun _ => ?_)
                                      refine lv_lload_n hx hb dJ13_stringSize_95d88_27 rfl (lv_at hl 2 rfl) ?_
                                      refine lv_lload_n hx hb dJ13_stringSize_95d88_28 rfl (lv_at hl 1 rfl) ?_
                                      refine W.lcmp hx hb dJ13_stringSize_95d88_29 ?_
                                      refine lv_if_le (tgt := 38) hx hb dJ13_stringSize_95d88_30 (by decide) (fun c_37 => ?_) (fun c_37 => ?_)
                                      · refine lv_ldc2 (v := (10 : Int64)) hx hb hown (hw _ bw1524) dJ13_stringSize_95d88_38 ?_
                                        refine lv_lload_n hx hb dJ13_stringSize_95d88_41 rfl (lv_at hl 1 rfl) ?_
                                        refine lv_lmul hx hb dJ13_stringSize_95d88_42 ?_
                                        refine k_foldl (y := (8446744073709551616 : Int64)) (by decide) ?_
                                        refine lv_lstore_n (lv' := [(3, .long (8446744073709551616 : Int64)), (5, .int (18 : Int32)), (0, .long (-p0)), (2, .int (0 : Int32))]) hx hb dJ13_stringSize_95d88_43 rfl hl (Nat.le_of_ble_eq_true rfl) rfl (fun ls hl => ?_)
                                        refine lv_iinc (v := (19 : Int32)) (lv' := [(5, .int (19 : Int32)), (3, .long (8446744073709551616 : Int64)), (0, .long (-p0)), (2, .int (0 : Int32))]) hx hb dJ13_stringSize_95d88_44 hl (k := 1) rfl (by first | rfl | decide) (Nat.le_of_ble_eq_true rfl) rfl (fun ls hl => ?_)
                                        refine lv_goto (tgt := 20) hx hb dJ13_stringSize_95d88_47 (by decide) ?_
                                        refine lv_iload hx hb dJ13_stringSize_95d88_20 (lv_at hl 0 rfl) ?_
                                        refine lv_bipush (v := (19 : Int32)) hx hb dJ13_stringSize_95d88_22 (by decide) ?_
                                        refine lv_icmp_ge (tgt := 50) hx hb dJ13_stringSize_95d88_24 (by decide) (fun _ => ?_) (fun c_x => absurd (show (19 : Int32) ≤ (19 : Int32) from by decide) c_x)
                                        refine lv_bipush (v := (19 : Int32)) hx hb dJ13_stringSize_95d88_50 (by decide) ?_
                                        refine lv_iload_n hx hb dJ13_stringSize_95d88_52 rfl (lv_at hl 3 rfl) ?_
                                        refine lv_iadd hx hb dJ13_stringSize_95d88_53 ?_
                                        refine k_foldi (y := (19 : Int32)) (by decide) ?_
                                        exact re_i hx hb hr hk dJ13_stringSize_95d88_54 (ei (Eq.trans (if_neg c_1) (Eq.trans (if_pos c_20) (Eq.trans (if_pos c_21) (Eq.trans (if_pos c_22) (Eq.trans (if_pos c_23) (Eq.trans (if_pos c_24) (Eq.trans (if_pos c_25) (Eq.trans (if_pos c_26) (Eq.trans (if_pos c_27) (Eq.trans (if_pos c_28) (Eq.trans (if_pos c_29) (Eq.trans (if_pos c_30) (Eq.trans (if_pos c_31) (Eq.trans (if_pos c_32) (Eq.trans (if_pos c_33) (Eq.trans (if_pos c_34) (Eq.trans (if_pos c_35) (Eq.trans (if_pos c_36) (if_pos c_37))))))))))))))))))))
                                      · refine lv_iload hx hb dJ13_stringSize_95d88_33 (lv_at hl 0 rfl) ?_
                                        refine lv_iload_n hx hb dJ13_stringSize_95d88_35 rfl (lv_at hl 3 rfl) ?_
                                        refine lv_iadd hx hb dJ13_stringSize_95d88_36 ?_
                                        refine k_foldi (y := (18 : Int32)) (by decide) ?_
                                        exact re_i hx hb hr hk dJ13_stringSize_95d88_37 (ei (Eq.trans (if_neg c_1) (Eq.trans (if_pos c_20) (Eq.trans (if_pos c_21) (Eq.trans (if_pos c_22) (Eq.trans (if_pos c_23) (Eq.trans (if_pos c_24) (Eq.trans (if_pos c_25) (Eq.trans (if_pos c_26) (Eq.trans (if_pos c_27) (Eq.trans (if_pos c_28) (Eq.trans (if_pos c_29) (Eq.trans (if_pos c_30) (Eq.trans (if_pos c_31) (Eq.trans (if_pos c_32) (Eq.trans (if_pos c_33) (Eq.trans (if_pos c_34) (Eq.trans (if_pos c_35) (Eq.trans (if_pos c_36) (if_neg c_37))))))))))))))))))))
                                    · refine lv_iload hx hb dJ13_stringSize_95d88_33 (lv_at hl 0 rfl) ?_
                                      refine lv_iload_n hx hb dJ13_stringSize_95d88_35 rfl (lv_at hl 3 rfl) ?_
                                      refine lv_iadd hx hb dJ13_stringSize_95d88_36 ?_
                                      refine k_foldi (y := (17 : Int32)) (by decide) ?_
                                      exact re_i hx hb hr hk dJ13_stringSize_95d88_37 (ei (Eq.trans (if_neg c_1) (Eq.trans (if_pos c_20) (Eq.trans (if_pos c_21) (Eq.trans (if_pos c_22) (Eq.trans (if_pos c_23) (Eq.trans (if_pos c_24) (Eq.trans (if_pos c_25) (Eq.trans (if_pos c_26) (Eq.trans (if_pos c_27) (Eq.trans (if_pos c_28) (Eq.trans (if_pos c_29) (Eq.trans (if_pos c_30) (Eq.trans (if_pos c_31) (Eq.trans (if_pos c_32) (Eq.trans (if_pos c_33) (Eq.trans (if_pos c_34) (Eq.trans (if_pos c_35) (if_neg c_36)))))))))))))))))))
                                  · refine lv_iload hx hb dJ13_stringSize_95d88_33 (lv_at hl 0 rfl) ?_
                                    refine lv_iload_n hx hb dJ13_stringSize_95d88_35 rfl (lv_at hl 3 rfl) ?_
                                    refine lv_iadd hx hb dJ13_stringSize_95d88_36 ?_
                                    refine k_foldi (y := (16 : Int32)) (by decide) ?_
                                    exact re_i hx hb hr hk dJ13_stringSize_95d88_37 (ei (Eq.trans (if_neg c_1) (Eq.trans (if_pos c_20) (Eq.trans (if_pos c_21) (Eq.trans (if_pos c_22) (Eq.trans (if_pos c_23) (Eq.trans (if_pos c_24) (Eq.trans (if_pos c_25) (Eq.trans (if_pos c_26) (Eq.trans (if_pos c_27) (Eq.trans (if_pos c_28) (Eq.trans (if_pos c_29) (Eq.trans (if_pos c_30) (Eq.trans (if_pos c_31) (Eq.trans (if_pos c_32) (Eq.trans (if_pos c_33) (Eq.trans (if_pos c_34) (if_neg c_35))))))))))))))))))
                                · refine lv_iload hx hb dJ13_stringSize_95d88_33 (lv_at hl 0 rfl) ?_
                                  refine lv_iload_n hx hb dJ13_stringSize_95d88_35 rfl (lv_at hl 3 rfl) ?_
                                  refine lv_iadd hx hb dJ13_stringSize_95d88_36 ?_
                                  refine k_foldi (y := (15 : Int32)) (by decide) ?_
                                  exact re_i hx hb hr hk dJ13_stringSize_95d88_37 (ei (Eq.trans (if_neg c_1) (Eq.trans (if_pos c_20) (Eq.trans (if_pos c_21) (Eq.trans (if_pos c_22) (Eq.trans (if_pos c_23) (Eq.trans (if_pos c_24) (Eq.trans (if_pos c_25) (Eq.trans (if_pos c_26) (Eq.trans (if_pos c_27) (Eq.trans (if_pos c_28) (Eq.trans (if_pos c_29) (Eq.trans (if_pos c_30) (Eq.trans (if_pos c_31) (Eq.trans (if_pos c_32) (Eq.trans (if_pos c_33) (if_neg c_34)))))))))))))))))
                              · refine lv_iload hx hb dJ13_stringSize_95d88_33 (lv_at hl 0 rfl) ?_
                                refine lv_iload_n hx hb dJ13_stringSize_95d88_35 rfl (lv_at hl 3 rfl) ?_
                                refine lv_iadd hx hb dJ13_stringSize_95d88_36 ?_
                                refine k_foldi (y := (14 : Int32)) (by decide) ?_
                                exact re_i hx hb hr hk dJ13_stringSize_95d88_37 (ei (Eq.trans (if_neg c_1) (Eq.trans (if_pos c_20) (Eq.trans (if_pos c_21) (Eq.trans (if_pos c_22) (Eq.trans (if_pos c_23) (Eq.trans (if_pos c_24) (Eq.trans (if_pos c_25) (Eq.trans (if_pos c_26) (Eq.trans (if_pos c_27) (Eq.trans (if_pos c_28) (Eq.trans (if_pos c_29) (Eq.trans (if_pos c_30) (Eq.trans (if_pos c_31) (Eq.trans (if_pos c_32) (if_neg c_33))))))))))))))))
                            · refine lv_iload hx hb dJ13_stringSize_95d88_33 (lv_at hl 0 rfl) ?_
                              refine lv_iload_n hx hb dJ13_stringSize_95d88_35 rfl (lv_at hl 3 rfl) ?_
                              refine lv_iadd hx hb dJ13_stringSize_95d88_36 ?_
                              refine k_foldi (y := (13 : Int32)) (by decide) ?_
                              exact re_i hx hb hr hk dJ13_stringSize_95d88_37 (ei (Eq.trans (if_neg c_1) (Eq.trans (if_pos c_20) (Eq.trans (if_pos c_21) (Eq.trans (if_pos c_22) (Eq.trans (if_pos c_23) (Eq.trans (if_pos c_24) (Eq.trans (if_pos c_25) (Eq.trans (if_pos c_26) (Eq.trans (if_pos c_27) (Eq.trans (if_pos c_28) (Eq.trans (if_pos c_29) (Eq.trans (if_pos c_30) (Eq.trans (if_pos c_31) (if_neg c_32)))))))))))))))
                          · refine lv_iload hx hb dJ13_stringSize_95d88_33 (lv_at hl 0 rfl) ?_
                            refine lv_iload_n hx hb dJ13_stringSize_95d88_35 rfl (lv_at hl 3 rfl) ?_
                            refine lv_iadd hx hb dJ13_stringSize_95d88_36 ?_
                            refine k_foldi (y := (12 : Int32)) (by decide) ?_
                            exact re_i hx hb hr hk dJ13_stringSize_95d88_37 (ei (Eq.trans (if_neg c_1) (Eq.trans (if_pos c_20) (Eq.trans (if_pos c_21) (Eq.trans (if_pos c_22) (Eq.trans (if_pos c_23) (Eq.trans (if_pos c_24) (Eq.trans (if_pos c_25) (Eq.trans (if_pos c_26) (Eq.trans (if_pos c_27) (Eq.trans (if_pos c_28) (Eq.trans (if_pos c_29) (Eq.trans (if_pos c_30) (if_neg c_31))))))))))))))
                        · refine lv_iload hx hb dJ13_stringSize_95d88_33 (lv_at hl 0 rfl) ?_
                          refine lv_iload_n hx hb dJ13_stringSize_95d88_35 rfl (lv_at hl 3 rfl) ?_
                          refine lv_iadd hx hb dJ13_stringSize_95d88_36 ?_
                          refine k_foldi (y := (11 : Int32)) (by decide) ?_
                          exact re_i hx hb hr hk dJ13_stringSize_95d88_37 (ei (Eq.trans (if_neg c_1) (Eq.trans (if_pos c_20) (Eq.trans (if_pos c_21) (Eq.trans (if_pos c_22) (Eq.trans (if_pos c_23) (Eq.trans (if_pos c_24) (Eq.trans (if_pos c_25) (Eq.trans (if_pos c_26) (Eq.trans (if_pos c_27) (Eq.trans (if_pos c_28) (Eq.trans (if_pos c_29) (if_neg c_30)))))))))))))
                      · refine lv_iload hx hb dJ13_stringSize_95d88_33 (lv_at hl 0 rfl) ?_
                        refine lv_iload_n hx hb dJ13_stringSize_95d88_35 rfl (lv_at hl 3 rfl) ?_
                        refine lv_iadd hx hb dJ13_stringSize_95d88_36 ?_
                        refine k_foldi (y := (10 : Int32)) (by decide) ?_
                        exact re_i hx hb hr hk dJ13_stringSize_95d88_37 (ei (Eq.trans (if_neg c_1) (Eq.trans (if_pos c_20) (Eq.trans (if_pos c_21) (Eq.trans (if_pos c_22) (Eq.trans (if_pos c_23) (Eq.trans (if_pos c_24) (Eq.trans (if_pos c_25) (Eq.trans (if_pos c_26) (Eq.trans (if_pos c_27) (Eq.trans (if_pos c_28) (if_neg c_29))))))))))))
                    · refine lv_iload hx hb dJ13_stringSize_95d88_33 (lv_at hl 0 rfl) ?_
                      refine lv_iload_n hx hb dJ13_stringSize_95d88_35 rfl (lv_at hl 3 rfl) ?_
                      refine lv_iadd hx hb dJ13_stringSize_95d88_36 ?_
                      refine k_foldi (y := (9 : Int32)) (by decide) ?_
                      exact re_i hx hb hr hk dJ13_stringSize_95d88_37 (ei (Eq.trans (if_neg c_1) (Eq.trans (if_pos c_20) (Eq.trans (if_pos c_21) (Eq.trans (if_pos c_22) (Eq.trans (if_pos c_23) (Eq.trans (if_pos c_24) (Eq.trans (if_pos c_25) (Eq.trans (if_pos c_26) (Eq.trans (if_pos c_27) (if_neg c_28)))))))))))
                  · refine lv_iload hx hb dJ13_stringSize_95d88_33 (lv_at hl 0 rfl) ?_
                    refine lv_iload_n hx hb dJ13_stringSize_95d88_35 rfl (lv_at hl 3 rfl) ?_
                    refine lv_iadd hx hb dJ13_stringSize_95d88_36 ?_
                    refine k_foldi (y := (8 : Int32)) (by decide) ?_
                    exact re_i hx hb hr hk dJ13_stringSize_95d88_37 (ei (Eq.trans (if_neg c_1) (Eq.trans (if_pos c_20) (Eq.trans (if_pos c_21) (Eq.trans (if_pos c_22) (Eq.trans (if_pos c_23) (Eq.trans (if_pos c_24) (Eq.trans (if_pos c_25) (Eq.trans (if_pos c_26) (if_neg c_27))))))))))
                · refine lv_iload hx hb dJ13_stringSize_95d88_33 (lv_at hl 0 rfl) ?_
                  refine lv_iload_n hx hb dJ13_stringSize_95d88_35 rfl (lv_at hl 3 rfl) ?_
                  refine lv_iadd hx hb dJ13_stringSize_95d88_36 ?_
                  refine k_foldi (y := (7 : Int32)) (by decide) ?_
                  exact re_i hx hb hr hk dJ13_stringSize_95d88_37 (ei (Eq.trans (if_neg c_1) (Eq.trans (if_pos c_20) (Eq.trans (if_pos c_21) (Eq.trans (if_pos c_22) (Eq.trans (if_pos c_23) (Eq.trans (if_pos c_24) (Eq.trans (if_pos c_25) (if_neg c_26)))))))))
              · refine lv_iload hx hb dJ13_stringSize_95d88_33 (lv_at hl 0 rfl) ?_
                refine lv_iload_n hx hb dJ13_stringSize_95d88_35 rfl (lv_at hl 3 rfl) ?_
                refine lv_iadd hx hb dJ13_stringSize_95d88_36 ?_
                refine k_foldi (y := (6 : Int32)) (by decide) ?_
                exact re_i hx hb hr hk dJ13_stringSize_95d88_37 (ei (Eq.trans (if_neg c_1) (Eq.trans (if_pos c_20) (Eq.trans (if_pos c_21) (Eq.trans (if_pos c_22) (Eq.trans (if_pos c_23) (Eq.trans (if_pos c_24) (if_neg c_25))))))))
            · refine lv_iload hx hb dJ13_stringSize_95d88_33 (lv_at hl 0 rfl) ?_
              refine lv_iload_n hx hb dJ13_stringSize_95d88_35 rfl (lv_at hl 3 rfl) ?_
              refine lv_iadd hx hb dJ13_stringSize_95d88_36 ?_
              refine k_foldi (y := (5 : Int32)) (by decide) ?_
              exact re_i hx hb hr hk dJ13_stringSize_95d88_37 (ei (Eq.trans (if_neg c_1) (Eq.trans (if_pos c_20) (Eq.trans (if_pos c_21) (Eq.trans (if_pos c_22) (Eq.trans (if_pos c_23) (if_neg c_24)))))))
          · refine lv_iload hx hb dJ13_stringSize_95d88_33 (lv_at hl 0 rfl) ?_
            refine lv_iload_n hx hb dJ13_stringSize_95d88_35 rfl (lv_at hl 3 rfl) ?_
            refine lv_iadd hx hb dJ13_stringSize_95d88_36 ?_
            refine k_foldi (y := (4 : Int32)) (by decide) ?_
            exact re_i hx hb hr hk dJ13_stringSize_95d88_37 (ei (Eq.trans (if_neg c_1) (Eq.trans (if_pos c_20) (Eq.trans (if_pos c_21) (Eq.trans (if_pos c_22) (if_neg c_23))))))
        · refine lv_iload hx hb dJ13_stringSize_95d88_33 (lv_at hl 0 rfl) ?_
          refine lv_iload_n hx hb dJ13_stringSize_95d88_35 rfl (lv_at hl 3 rfl) ?_
          refine lv_iadd hx hb dJ13_stringSize_95d88_36 ?_
          refine k_foldi (y := (3 : Int32)) (by decide) ?_
          exact re_i hx hb hr hk dJ13_stringSize_95d88_37 (ei (Eq.trans (if_neg c_1) (Eq.trans (if_pos c_20) (Eq.trans (if_pos c_21) (if_neg c_22)))))
      · refine lv_iload hx hb dJ13_stringSize_95d88_33 (lv_at hl 0 rfl) ?_
        refine lv_iload_n hx hb dJ13_stringSize_95d88_35 rfl (lv_at hl 3 rfl) ?_
        refine lv_iadd hx hb dJ13_stringSize_95d88_36 ?_
        refine k_foldi (y := (2 : Int32)) (by decide) ?_
        exact re_i hx hb hr hk dJ13_stringSize_95d88_37 (ei (Eq.trans (if_neg c_1) (Eq.trans (if_pos c_20) (if_neg c_21))))
    · refine lv_iload hx hb dJ13_stringSize_95d88_33 (lv_at hl 0 rfl) ?_
      refine lv_iload_n hx hb dJ13_stringSize_95d88_35 rfl (lv_at hl 3 rfl) ?_
      refine lv_iadd hx hb dJ13_stringSize_95d88_36 ?_
      refine k_foldi (y := (1 : Int32)) (by decide) ?_
      exact re_i hx hb hr hk dJ13_stringSize_95d88_37 (ei (Eq.trans (if_neg c_1) (if_neg c_20)))

