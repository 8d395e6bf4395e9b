set_option maxRecDepth 100000 in
set_option maxHeartbeats 4000000 in
theorem t_X0_checkMoment (l : Launch) (hl9 : l.stackTraces = false) (G : GT) (p0 : Int32) (hbad : ¬ vp_in p0 6) : TH l G yX0_checkMoment cX0_checkMoment 1 none 6 [.int p0] eI := by
  refine TH.ofW (own := RX0) rfl pnN_RX0 (Nat.le_of_ble_eq_true rfl) ?_
  intro p e s m below meth c C ht hk hE ls hl
  have hx := C.1
  have hb := C.2.1
  have hml := C.2.2.1
  have hown := C.2.2.2.1
  have hw := C.2.2.2.2
  have hl : lv_has ls 1 [(0, .int p0)] := hl
  have hP : va_P (gD G) vwCl [] s.heap := vpn
  refine lv_iload_n hx hb dX0_checkMoment_0 rfl (lv_at hl 0 rfl) ?_
  refine lv_if_lt (tgt := 10) hx hb dX0_checkMoment_1 (by decide) (fun c_1 => ?_) (fun c_1 => ?_)
  · refine vx_throwS (A := gA G) hx hb hl9 (own := RX0) (cls := eI) (names := eN) hown (by decide +kernel) (by decide +kernel) (hw _ bw390) (hw _ bw65) hE.1.2.1 (vx_hat (fun w h => hw w (at_I w h)) (B := bad9 eI) (fun w h => by rw [an_I] at h; exact h) (hat9 hw (hw _ bw391))) (by decide +kernel) hE.2.2.1 hE.2.2.2.1 va_S.rf (by rw [hml]; exact hl.1) dX0_checkMoment_10 dX0_checkMoment_13 dX0_checkMoment_14 dX0_checkMoment_16 dX0_checkMoment_19 (fun x hx => (ht x hx).elim) (Nat.le_of_ble_eq_true rfl) (Nat.le_of_ble_eq_true rfl) (Nat.le_of_ble_eq_true rfl) (Nat.le_of_ble_eq_true rfl) hk (fun t _ h1 h2 => ⟨rfl, h1, fun q h3 _ => h2 q h3⟩) (fun z hz => nomatch hz) (Nat.le_refl _) (Nat.le_refl _)
  · refine lv_iload_n hx hb dX0_checkMoment_4 rfl (lv_at hl 0 rfl) ?_
    refine lv_bipush (v := (6 : Int32)) hx hb dX0_checkMoment_5 qb_6 ?_
    refine lv_icmp_lt (tgt := 20) hx hb dX0_checkMoment_7 (by decide) (fun c_x => absurd c_x (fun q => hbad (vin_of c_1 q))) (fun _ => ?_)
    refine vx_throwS (A := gA G) hx hb hl9 (own := RX0) (cls := eI) (names := eN) hown (by decide +kernel) (by decide +kernel) (hw _ bw390) (hw _ bw65) hE.1.2.1 (vx_hat (fun w h => hw w (at_I w h)) (B := bad9 eI) (fun w h => by rw [an_I] at h; exact h) (hat9 hw (hw _ bw391))) (by decide +kernel) hE.2.2.1 hE.2.2.2.1 va_S.rf (by rw [hml]; exact hl.1) dX0_checkMoment_10 dX0_checkMoment_13 dX0_checkMoment_14 dX0_checkMoment_16 dX0_checkMoment_19 (fun x hx => (ht x hx).elim) (Nat.le_of_ble_eq_true rfl) (Nat.le_of_ble_eq_true rfl) (Nat.le_of_ble_eq_true rfl) (Nat.le_of_ble_eq_true rfl) hk (fun t _ h1 h2 => ⟨rfl, h1, fun q h3 _ => h2 q h3⟩) (fun z hz => nomatch hz) (Nat.le_refl _) (Nat.le_refl _)

set_option maxRecDepth 100000 in
set_option maxHeartbeats 4000000 in
theorem t_X0_checkRange (l : Launch) (hl9 : l.stackTraces = false) (G : GT) (p0 : Int32) (p1 : Int32) (p2 : Int32) (hbad : ¬ (¬ p0 < p1 ∧ p0 ≤ p2)) : TH l G yX0_checkRange cX0_checkRange 3 none 6 [.int p0, .int p1, .int p2] eA := by
  refine TH.ofW (own := RX0) rfl pnN_RX0 (Nat.le_of_ble_eq_true rfl) ?_
  intro p e s m below meth c C ht hk hE ls hl
  have hx := C.1
  have hb := C.2.1
  have hml := C.2.2.1
  have hown := C.2.2.2.1
  have hw := C.2.2.2.2
  have hl : lv_has ls 3 [(0, .int p0), (1, .int p1), (2, .int p2)] := hl
  have hP : va_P (gD G) vwCl [] s.heap := vpn
  refine lv_iload_n hx hb dX0_checkRange_0 rfl (lv_at hl 0 rfl) ?_
  refine lv_iload_n hx hb dX0_checkRange_1 rfl (lv_at hl 1 rfl) ?_
  refine lv_icmp_lt (tgt := 10) hx hb dX0_checkRange_2 (by decide) (fun c_1 => ?_) (fun c_1 => ?_)
  · refine vx_throwS (A := gA G) hx hb hl9 (own := RX0) (cls := eA) (names := eN) hown (by decide +kernel) (by decide +kernel) (hw _ bw311) (hw _ bw64) hE.1.2.2.1 (vx_hat (fun w h => hw w (at_A w h)) (B := bad9 eA) (fun w h => by rw [an_A] at h; exact h) (hat9 hw (hw _ bw312))) (by decide +kernel) hE.2.2.1 hE.2.2.2.1 va_S.rf (by rw [hml]; exact hl.1) dX0_checkRange_10 dX0_checkRange_13 dX0_checkRange_14 dX0_checkRange_16 dX0_checkRange_19 (fun x hx => (ht x hx).elim) (Nat.le_of_ble_eq_true rfl) (Nat.le_of_ble_eq_true rfl) (Nat.le_of_ble_eq_true rfl) (Nat.le_of_ble_eq_true rfl) hk (fun t _ h1 h2 => ⟨rfl, h1, fun q h3 _ => h2 q h3⟩) (fun z hz => nomatch hz) (Nat.le_refl _) (Nat.le_refl _)
  · refine lv_iload_n hx hb dX0_checkRange_5 rfl (lv_at hl 0 rfl) ?_
    refine lv_iload_n hx hb dX0_checkRange_6 rfl (lv_at hl 2 rfl) ?_
    refine lv_icmp_le (tgt := 20) hx hb dX0_checkRange_7 (by decide) (fun c_x => absurd c_x (fun q => hbad ⟨c_1, q⟩)) (fun _ => ?_)
    refine vx_throwS (A := gA G) hx hb hl9 (own := RX0) (cls := eA) (names := eN) hown (by decide +kernel) (by decide +kernel) (hw _ bw311) (hw _ bw64) hE.1.2.2.1 (vx_hat (fun w h => hw w (at_A w h)) (B := bad9 eA) (fun w h => by rw [an_A] at h; exact h) (hat9 hw (hw _ bw312))) (by decide +kernel) hE.2.2.1 hE.2.2.2.1 va_S.rf (by rw [hml]; exact hl.1) dX0_checkRange_10 dX0_checkRange_13 dX0_checkRange_14 dX0_checkRange_16 dX0_checkRange_19 (fun x hx => (ht x hx).elim) (Nat.le_of_ble_eq_true rfl) (Nat.le_of_ble_eq_true rfl) (Nat.le_of_ble_eq_true rfl) (Nat.le_of_ble_eq_true rfl) hk (fun t _ h1 h2 => ⟨rfl, h1, fun q h3 _ => h2 q h3⟩) (fun z hz => nomatch hz) (Nat.le_refl _) (Nat.le_refl _)

set_option maxRecDepth 100000 in
set_option maxHeartbeats 4000000 in
theorem tA_X0_hand (l : Launch) (hl9 : l.stackTraces = false) (G : GT) (a : Nat → Nat) (p0 : Int32) (p1 : Int32) (p2 : Int32) (p3 : Int32) (hbad : ¬ ((¬ p0 < (0 : Int32) ∧ p0 ≤ (23 : Int32)) ∧ (¬ p1 < (0 : Int32) ∧ p1 ≤ (59 : Int32)) ∧ (¬ p2 < (0 : Int32) ∧ p2 ≤ (59 : Int32)) ∧ (¬ p3 < (0 : Int32) ∧ p3 ≤ (999999999 : Int32)))) : TH l G yX0_hand cX0_hand 6 (some .int) 8 [.ref (a 0), .int p0, .int p1, .int p2, .int p3] eA := by
  refine TH.ofW (own := RX0) rfl pnN_RX0 (Nat.le_of_ble_eq_true rfl) ?_
  intro p e s m below meth c C ht hk hE ls hl
  have hx := C.1
  have hb := C.2.1
  have hown := C.2.2.2.1
  have hw := C.2.2.2.2
  have hl : lv_has ls 6 [(0, .ref (a 0)), (1, .int p0), (2, .int p1), (3, .int p2), (4, .int p3)] := hl
  refine lv_iload_n hx hb dX0_hand_0 rfl (lv_at hl 1 rfl) ?_
  refine lv_iconst (v := (0 : Int32)) hx hb dX0_hand_1 qi_0 ?_
  refine lv_bipush (v := (23 : Int32)) hx hb dX0_hand_2 qb_23 ?_
  by_cases k0 : (¬ p0 < (0 : Int32) ∧ p0 ≤ (23 : Int32))
  · refine rcSv (as := [.int p0, .int (0 : Int32), .int (23 : Int32)]) (rest := []) C (c_X0_checkRange l G p0 (0 : Int32) (23 : Int32) k0.1 k0.2) F_X0_checkRange rfl bw308 bw309 hE vpn hl.1 dX0_hand_4 ⟨Nat.le_of_ble_eq_true rfl, Nat.le_of_ble_eq_true rfl⟩ rfl (Nat.le_of_ble_eq_true rfl) ⟨Nat.zero_le _, Nat.zero_le _⟩ ?_
    refine lv_iload_n hx hb dX0_hand_7 rfl (lv_at hl 2 rfl) ?_
    refine lv_iconst (v := (0 : Int32)) hx hb dX0_hand_8 qi_0 ?_
    refine lv_bipush (v := (59 : Int32)) hx hb dX0_hand_9 qb_59 ?_
    by_cases k1 : (¬ p1 < (0 : Int32) ∧ p1 ≤ (59 : Int32))
    · refine rcSv (as := [.int p1, .int (0 : Int32), .int (59 : Int32)]) (rest := []) C (c_X0_checkRange l G p1 (0 : Int32) (59 : Int32) k1.1 k1.2) F_X0_checkRange rfl bw308 bw309 hE vpn hl.1 dX0_hand_11 ⟨Nat.le_of_ble_eq_true rfl, Nat.le_of_ble_eq_true rfl⟩ rfl (Nat.le_of_ble_eq_true rfl) ⟨Nat.zero_le _, Nat.zero_le _⟩ ?_
      refine lv_iload_n hx hb dX0_hand_14 rfl (lv_at hl 3 rfl) ?_
      refine lv_iconst (v := (0 : Int32)) hx hb dX0_hand_15 qi_0 ?_
      refine lv_bipush (v := (59 : Int32)) hx hb dX0_hand_16 qb_59 ?_
      by_cases k2 : (¬ p2 < (0 : Int32) ∧ p2 ≤ (59 : Int32))
      · refine rcSv (as := [.int p2, .int (0 : Int32), .int (59 : Int32)]) (rest := []) C (c_X0_checkRange l G p2 (0 : Int32) (59 : Int32) k2.1 k2.2) F_X0_checkRange rfl bw308 bw309 hE vpn hl.1 dX0_hand_18 ⟨Nat.le_of_ble_eq_true rfl, Nat.le_of_ble_eq_true rfl⟩ rfl (Nat.le_of_ble_eq_true rfl) ⟨Nat.zero_le _, Nat.zero_le _⟩ ?_
        refine lv_iload hx hb dX0_hand_21 (lv_at hl 4 rfl) ?_
        refine lv_iconst (v := (0 : Int32)) hx hb dX0_hand_23 qi_0 ?_
        refine lv_ldc (v := (999999999 : Int32)) hx hb hown (hw _ bw378) dX0_hand_24 ?_
        exact thS (as := [.int p3, .int (0 : Int32), .int (999999999 : Int32)]) (rest := []) C (t_X0_checkRange l hl9 G p3 (0 : Int32) (999999999 : Int32) (fun q => hbad ⟨k0, k1, k2, q⟩)) F_X0_checkRange rfl bw308 bw309 hE ht hk hl.1 dX0_hand_26 ⟨Nat.le_of_ble_eq_true rfl, Nat.le_of_ble_eq_true rfl⟩ rfl (Nat.le_of_ble_eq_true rfl)
      · exact thS (as := [.int p2, .int (0 : Int32), .int (59 : Int32)]) (rest := []) C (t_X0_checkRange l hl9 G p2 (0 : Int32) (59 : Int32) k2) F_X0_checkRange rfl bw308 bw309 hE ht hk hl.1 dX0_hand_18 ⟨Nat.le_of_ble_eq_true rfl, Nat.le_of_ble_eq_true rfl⟩ rfl (Nat.le_of_ble_eq_true rfl)
    · exact thS (as := [.int p1, .int (0 : Int32), .int (59 : Int32)]) (rest := []) C (t_X0_checkRange l hl9 G p1 (0 : Int32) (59 : Int32) k1) F_X0_checkRange rfl bw308 bw309 hE ht hk hl.1 dX0_hand_11 ⟨Nat.le_of_ble_eq_true rfl, Nat.le_of_ble_eq_true rfl⟩ rfl (Nat.le_of_ble_eq_true rfl)
  · exact thS (as := [.int p0, .int (0 : Int32), .int (23 : Int32)]) (rest := []) C (t_X0_checkRange l hl9 G p0 (0 : Int32) (23 : Int32) k0) F_X0_checkRange rfl bw308 bw309 hE ht hk hl.1 dX0_hand_4 ⟨Nat.le_of_ble_eq_true rfl, Nat.le_of_ble_eq_true rfl⟩ rfl (Nat.le_of_ble_eq_true rfl)

set_option maxRecDepth 100000 in
set_option maxHeartbeats 4000000 in
theorem tI_X0_of (l : Launch) (hl9 : l.stackTraces = false) (G : GT) (a : Nat → Nat) (p0 : Int32) (p1 : Int32) (p2 : Int32) (p3 : Int32) (p4 : Int32) (hbad : ¬ (vp_in p0 6)) : TH l G yX0_of cX0_of 6 (some .int) 8 [.ref (a 0), .int p0, .int p1, .int p2, .int p3, .int p4] eI := by
  refine TH.ofW (own := RX0) rfl pnN_RX0 (Nat.le_of_ble_eq_true rfl) ?_
  intro p e s m below meth c C ht hk hE ls hl
  have hx := C.1
  have hb := C.2.1
  have hown := C.2.2.2.1
  have hw := C.2.2.2.2
  have hl : lv_has ls 6 [(0, .ref (a 0)), (1, .int p0), (2, .int p1), (3, .int p2), (4, .int p3), (5, .int p4)] := hl
  refine lv_iload_n hx hb dX0_of_0 rfl (lv_at hl 1 rfl) ?_
  exact thS (as := [.int p0]) (rest := []) C (t_X0_checkMoment l hl9 G p0 (fun q => hbad q)) F_X0_checkMoment rfl bw387 bw388 hE ht hk hl.1 dX0_of_1 ⟨Nat.le_of_ble_eq_true rfl, Nat.le_of_ble_eq_true rfl⟩ rfl (Nat.le_of_ble_eq_true rfl)

set_option maxRecDepth 100000 in
set_option maxHeartbeats 4000000 in
theorem tA_X0_of (l : Launch) (hl9 : l.stackTraces = false) (G : GT) (a : Nat → Nat) (p0 : Int32) (p1 : Int32) (p2 : Int32) (p3 : Int32) (p4 : Int32) (h0 : vp_in p0 6) (hbad : ¬ ((¬ p1 < (-9999 : Int32) ∧ p1 ≤ (9999 : Int32)) ∧ (¬ p2 < (1 : Int32) ∧ p2 ≤ (12 : Int32)) ∧ (¬ p3 < (1 : Int32) ∧ p3 ≤ (31 : Int32)) ∧ (¬ p4 < (0 : Int32) ∧ p4 ≤ (6 : Int32)))) : TH l G yX0_of cX0_of 6 (some .int) 8 [.ref (a 0), .int p0, .int p1, .int p2, .int p3, .int p4] eA := by
  refine TH.ofW (own := RX0) rfl pnN_RX0 (Nat.le_of_ble_eq_true rfl) ?_
  intro p e s m below meth c C ht hk hE ls hl
  have hx := C.1
  have hb := C.2.1
  have hown := C.2.2.2.1
  have hw := C.2.2.2.2
  have hl : lv_has ls 6 [(0, .ref (a 0)), (1, .int p0), (2, .int p1), (3, .int p2), (4, .int p3), (5, .int p4)] := hl
  refine lv_iload_n hx hb dX0_of_0 rfl (lv_at hl 1 rfl) ?_
  refine rcSv (as := [.int p0]) (rest := []) C (c_X0_checkMoment l G p0 h0) F_X0_checkMoment rfl bw387 bw388 hE vpn hl.1 dX0_of_1 ⟨Nat.le_of_ble_eq_true rfl, Nat.le_of_ble_eq_true rfl⟩ rfl (Nat.le_of_ble_eq_true rfl) ⟨Nat.zero_le _, Nat.zero_le _⟩ ?_
  refine lv_iload_n hx hb dX0_of_4 rfl (lv_at hl 2 rfl) ?_
  refine lv_sipush (v := (-9999 : Int32)) hx hb dX0_of_5 qs_m9999 ?_
  refine lv_sipush (v := (9999 : Int32)) hx hb dX0_of_8 qs_9999 ?_
  by_cases k1 : (¬ p1 < (-9999 : Int32) ∧ p1 ≤ (9999 : Int32))
  · refine rcSv (as := [.int p1, .int (-9999 : Int32), .int (9999 : Int32)]) (rest := []) C (c_X0_checkRange l G p1 (-9999 : Int32) (9999 : Int32) k1.1 k1.2) F_X0_checkRange rfl bw308 bw309 hE vpn hl.1 dX0_of_11 ⟨Nat.le_of_ble_eq_true rfl, Nat.le_of_ble_eq_true rfl⟩ rfl (Nat.le_of_ble_eq_true rfl) ⟨Nat.zero_le _, Nat.zero_le _⟩ ?_
    refine lv_iload_n hx hb dX0_of_14 rfl (lv_at hl 3 rfl) ?_
    refine lv_iconst (v := (1 : Int32)) hx hb dX0_of_15 qi_1 ?_
    refine lv_bipush (v := (12 : Int32)) hx hb dX0_of_16 qb_12 ?_
    by_cases k2 : (¬ p2 < (1 : Int32) ∧ p2 ≤ (12 : Int32))
    · refine rcSv (as := [.int p2, .int (1 : Int32), .int (12 : Int32)]) (rest := []) C (c_X0_checkRange l G p2 (1 : Int32) (12 : Int32) k2.1 k2.2) F_X0_checkRange rfl bw308 bw309 hE vpn hl.1 dX0_of_18 ⟨Nat.le_of_ble_eq_true rfl, Nat.le_of_ble_eq_true rfl⟩ rfl (Nat.le_of_ble_eq_true rfl) ⟨Nat.zero_le _, Nat.zero_le _⟩ ?_
      refine lv_iload hx hb dX0_of_21 (lv_at hl 4 rfl) ?_
      refine lv_iconst (v := (1 : Int32)) hx hb dX0_of_23 qi_1 ?_
      refine lv_bipush (v := (31 : Int32)) hx hb dX0_of_24 qb_31 ?_
      by_cases k3 : (¬ p3 < (1 : Int32) ∧ p3 ≤ (31 : Int32))
      · refine rcSv (as := [.int p3, .int (1 : Int32), .int (31 : Int32)]) (rest := []) C (c_X0_checkRange l G p3 (1 : Int32) (31 : Int32) k3.1 k3.2) F_X0_checkRange rfl bw308 bw309 hE vpn hl.1 dX0_of_26 ⟨Nat.le_of_ble_eq_true rfl, Nat.le_of_ble_eq_true rfl⟩ rfl (Nat.le_of_ble_eq_true rfl) ⟨Nat.zero_le _, Nat.zero_le _⟩ ?_
        refine lv_iload hx hb dX0_of_29 (lv_at hl 5 rfl) ?_
        refine lv_iconst (v := (0 : Int32)) hx hb dX0_of_31 qi_0 ?_
        refine lv_bipush (v := (6 : Int32)) hx hb dX0_of_32 qb_6 ?_
        exact thS (as := [.int p4, .int (0 : Int32), .int (6 : Int32)]) (rest := []) C (t_X0_checkRange l hl9 G p4 (0 : Int32) (6 : Int32) (fun q => hbad ⟨k1, k2, k3, q⟩)) F_X0_checkRange rfl bw308 bw309 hE ht hk hl.1 dX0_of_34 ⟨Nat.le_of_ble_eq_true rfl, Nat.le_of_ble_eq_true rfl⟩ rfl (Nat.le_of_ble_eq_true rfl)
      · exact thS (as := [.int p3, .int (1 : Int32), .int (31 : Int32)]) (rest := []) C (t_X0_checkRange l hl9 G p3 (1 : Int32) (31 : Int32) k3) F_X0_checkRange rfl bw308 bw309 hE ht hk hl.1 dX0_of_26 ⟨Nat.le_of_ble_eq_true rfl, Nat.le_of_ble_eq_true rfl⟩ rfl (Nat.le_of_ble_eq_true rfl)
    · exact thS (as := [.int p2, .int (1 : Int32), .int (12 : Int32)]) (rest := []) C (t_X0_checkRange l hl9 G p2 (1 : Int32) (12 : Int32) k2) F_X0_checkRange rfl bw308 bw309 hE ht hk hl.1 dX0_of_18 ⟨Nat.le_of_ble_eq_true rfl, Nat.le_of_ble_eq_true rfl⟩ rfl (Nat.le_of_ble_eq_true rfl)
  · exact thS (as := [.int p1, .int (-9999 : Int32), .int (9999 : Int32)]) (rest := []) C (t_X0_checkRange l hl9 G p1 (-9999 : Int32) (9999 : Int32) k1) F_X0_checkRange rfl bw308 bw309 hE ht hk hl.1 dX0_of_11 ⟨Nat.le_of_ble_eq_true rfl, Nat.le_of_ble_eq_true rfl⟩ rfl (Nat.le_of_ble_eq_true rfl)

set_option maxRecDepth 100000 in
set_option maxHeartbeats 4000000 in
theorem tI_X0_ofDay (l : Launch) (hl9 : l.stackTraces = false) (G : GT) (a : Nat → Nat) (p0 : Int32) (p1 : Int32) (hbad : ¬ (vp_in p0 6)) : TH l G yX0_ofDay cX0_ofDay 3 (some .int) 8 [.ref (a 0), .int p0, .int p1] eI := by
  refine TH.ofW (own := RX0) rfl pnN_RX0 (Nat.le_of_ble_eq_true rfl) ?_
  intro p e s m below meth c C ht hk hE ls hl
  have hx := C.1
  have hb := C.2.1
  have hown := C.2.2.2.1
  have hw := C.2.2.2.2
  have hl : lv_has ls 3 [(0, .ref (a 0)), (1, .int p0), (2, .int p1)] := hl
  refine lv_iload_n hx hb dX0_ofDay_0 rfl (lv_at hl 1 rfl) ?_
  exact thS (as := [.int p0]) (rest := []) C (t_X0_checkMoment l hl9 G p0 (fun q => hbad q)) F_X0_checkMoment rfl bw387 bw388 hE ht hk hl.1 dX0_ofDay_1 ⟨Nat.le_of_ble_eq_true rfl, Nat.le_of_ble_eq_true rfl⟩ rfl (Nat.le_of_ble_eq_true rfl)

set_option maxRecDepth 100000 in
set_option maxHeartbeats 4000000 in
theorem tA_X0_ofDay (l : Launch) (hl9 : l.stackTraces = false) (G : GT) (a : Nat → Nat) (p0 : Int32) (p1 : Int32) (h0 : vp_in p0 6) (hbad : ¬ ((¬ p1 < (-10000000 : Int32) ∧ p1 ≤ (10000000 : Int32)))) : TH l G yX0_ofDay cX0_ofDay 3 (some .int) 8 [.ref (a 0), .int p0, .int p1] eA := by
  refine TH.ofW (own := RX0) rfl pnN_RX0 (Nat.le_of_ble_eq_true rfl) ?_
  intro p e s m below meth c C ht hk hE ls hl
  have hx := C.1
  have hb := C.2.1
  have hown := C.2.2.2.1
  have hw := C.2.2.2.2
  have hl : lv_has ls 3 [(0, .ref (a 0)), (1, .int p0), (2, .int p1)] := hl
  refine lv_iload_n hx hb dX0_ofDay_0 rfl (lv_at hl 1 rfl) ?_
  refine rcSv (as := [.int p0]) (rest := []) C (c_X0_checkMoment l G p0 h0) F_X0_checkMoment rfl bw387 bw388 hE vpn hl.1 dX0_ofDay_1 ⟨Nat.le_of_ble_eq_true rfl, Nat.le_of_ble_eq_true rfl⟩ rfl (Nat.le_of_ble_eq_true rfl) ⟨Nat.zero_le _, Nat.zero_le _⟩ ?_
  refine lv_iload_n hx hb dX0_ofDay_4 rfl (lv_at hl 2 rfl) ?_
  refine lv_ldc (v := (-10000000 : Int32)) hx hb hown (hw _ bw425) dX0_ofDay_5 ?_
  refine lv_ldc (v := (10000000 : Int32)) hx hb hown (hw _ bw426) dX0_ofDay_7 ?_
  exact thS (as := [.int p1, .int (-10000000 : Int32), .int (10000000 : Int32)]) (rest := []) C (t_X0_checkRange l hl9 G p1 (-10000000 : Int32) (10000000 : Int32) (fun q => hbad q)) F_X0_checkRange rfl bw308 bw309 hE ht hk hl.1 dX0_ofDay_9 ⟨Nat.le_of_ble_eq_true rfl, Nat.le_of_ble_eq_true rfl⟩ rfl (Nat.le_of_ble_eq_true rfl)

set_option maxRecDepth 100000 in
set_option maxHeartbeats 4000000 in
theorem tI_X0_copy (l : Launch) (hl9 : l.stackTraces = false) (G : GT) (a : Nat → Nat) (p0 : Int32) (p1 : Int32) (hbad : ¬ (vp_in p0 6 ∧ vp_in p1 6)) : TH l G yX0_copy cX0_copy 3 (some .int) 8 [.ref (a 0), .int p0, .int p1] eI := by
  refine TH.ofW (own := RX0) rfl pnN_RX0 (Nat.le_of_ble_eq_true rfl) ?_
  intro p e s m below meth c C ht hk hE ls hl
  have hx := C.1
  have hb := C.2.1
  have hown := C.2.2.2.1
  have hw := C.2.2.2.2
  have hl : lv_has ls 3 [(0, .ref (a 0)), (1, .int p0), (2, .int p1)] := hl
  refine lv_iload_n hx hb dX0_copy_0 rfl (lv_at hl 1 rfl) ?_
  by_cases k0 : vp_in p0 6
  · refine rcSv (as := [.int p0]) (rest := []) C (c_X0_checkMoment l G p0 k0) F_X0_checkMoment rfl bw387 bw388 hE vpn hl.1 dX0_copy_1 ⟨Nat.le_of_ble_eq_true rfl, Nat.le_of_ble_eq_true rfl⟩ rfl (Nat.le_of_ble_eq_true rfl) ⟨Nat.zero_le _, Nat.zero_le _⟩ ?_
    refine lv_iload_n hx hb dX0_copy_4 rfl (lv_at hl 2 rfl) ?_
    exact thS (as := [.int p1]) (rest := []) C (t_X0_checkMoment l hl9 G p1 (fun q => hbad ⟨k0, q⟩)) F_X0_checkMoment rfl bw387 bw388 hE ht hk hl.1 dX0_copy_5 ⟨Nat.le_of_ble_eq_true rfl, Nat.le_of_ble_eq_true rfl⟩ rfl (Nat.le_of_ble_eq_true rfl)
  · exact thS (as := [.int p0]) (rest := []) C (t_X0_checkMoment l hl9 G p0 k0) F_X0_checkMoment rfl bw387 bw388 hE ht hk hl.1 dX0_copy_1 ⟨Nat.le_of_ble_eq_true rfl, Nat.le_of_ble_eq_true rfl⟩ rfl (Nat.le_of_ble_eq_true rfl)

set_option maxRecDepth 100000 in
set_option maxHeartbeats 4000000 in
theorem tI_X0_takeDate (l : Launch) (hl9 : l.stackTraces = false) (G : GT) (a : Nat → Nat) (p0 : Int32) (p1 : Int32) (hbad : ¬ (vp_in p0 6 ∧ vp_in p1 6)) : TH l G yX0_takeDate cX0_takeDate 3 (some .int) 8 [.ref (a 0), .int p0, .int p1] eI := by
  refine TH.ofW (own := RX0) rfl pnN_RX0 (Nat.le_of_ble_eq_true rfl) ?_
  intro p e s m below meth c C ht hk hE ls hl
  have hx := C.1
  have hb := C.2.1
  have hown := C.2.2.2.1
  have hw := C.2.2.2.2
  have hl : lv_has ls 3 [(0, .ref (a 0)), (1, .int p0), (2, .int p1)] := hl
  refine lv_iload_n hx hb dX0_takeDate_0 rfl (lv_at hl 1 rfl) ?_
  by_cases k0 : vp_in p0 6
  · refine rcSv (as := [.int p0]) (rest := []) C (c_X0_checkMoment l G p0 k0) F_X0_checkMoment rfl bw387 bw388 hE vpn hl.1 dX0_takeDate_1 ⟨Nat.le_of_ble_eq_true rfl, Nat.le_of_ble_eq_true rfl⟩ rfl (Nat.le_of_ble_eq_true rfl) ⟨Nat.zero_le _, Nat.zero_le _⟩ ?_
    refine lv_iload_n hx hb dX0_takeDate_4 rfl (lv_at hl 2 rfl) ?_
    exact thS (as := [.int p1]) (rest := []) C (t_X0_checkMoment l hl9 G p1 (fun q => hbad ⟨k0, q⟩)) F_X0_checkMoment rfl bw387 bw388 hE ht hk hl.1 dX0_takeDate_5 ⟨Nat.le_of_ble_eq_true rfl, Nat.le_of_ble_eq_true rfl⟩ rfl (Nat.le_of_ble_eq_true rfl)
  · exact thS (as := [.int p0]) (rest := []) C (t_X0_checkMoment l hl9 G p0 k0) F_X0_checkMoment rfl bw387 bw388 hE ht hk hl.1 dX0_takeDate_1 ⟨Nat.le_of_ble_eq_true rfl, Nat.le_of_ble_eq_true rfl⟩ rfl (Nat.le_of_ble_eq_true rfl)

set_option maxRecDepth 100000 in
set_option maxHeartbeats 4000000 in
theorem tI_X0_takeTime (l : Launch) (hl9 : l.stackTraces = false) (G : GT) (a : Nat → Nat) (p0 : Int32) (p1 : Int32) (hbad : ¬ (vp_in p0 6 ∧ vp_in p1 6)) : TH l G yX0_takeTime cX0_takeTime 3 (some .int) 8 [.ref (a 0), .int p0, .int p1] eI := by
  refine TH.ofW (own := RX0) rfl pnN_RX0 (Nat.le_of_ble_eq_true rfl) ?_
  intro p e s m below meth c C ht hk hE ls hl
  have hx := C.1
  have hb := C.2.1
  have hown := C.2.2.2.1
  have hw := C.2.2.2.2
  have hl : lv_has ls 3 [(0, .ref (a 0)), (1, .int p0), (2, .int p1)] := hl
  refine lv_iload_n hx hb dX0_takeTime_0 rfl (lv_at hl 1 rfl) ?_
  by_cases k0 : vp_in p0 6
  · refine rcSv (as := [.int p0]) (rest := []) C (c_X0_checkMoment l G p0 k0) F_X0_checkMoment rfl bw387 bw388 hE vpn hl.1 dX0_takeTime_1 ⟨Nat.le_of_ble_eq_true rfl, Nat.le_of_ble_eq_true rfl⟩ rfl (Nat.le_of_ble_eq_true rfl) ⟨Nat.zero_le _, Nat.zero_le _⟩ ?_
    refine lv_iload_n hx hb dX0_takeTime_4 rfl (lv_at hl 2 rfl) ?_
    exact thS (as := [.int p1]) (rest := []) C (t_X0_checkMoment l hl9 G p1 (fun q => hbad ⟨k0, q⟩)) F_X0_checkMoment rfl bw387 bw388 hE ht hk hl.1 dX0_takeTime_5 ⟨Nat.le_of_ble_eq_true rfl, Nat.le_of_ble_eq_true rfl⟩ rfl (Nat.le_of_ble_eq_true rfl)
  · exact thS (as := [.int p0]) (rest := []) C (t_X0_checkMoment l hl9 G p0 k0) F_X0_checkMoment rfl bw387 bw388 hE ht hk hl.1 dX0_takeTime_1 ⟨Nat.le_of_ble_eq_true rfl, Nat.le_of_ble_eq_true rfl⟩ rfl (Nat.le_of_ble_eq_true rfl)

set_option maxRecDepth 100000 in
set_option maxHeartbeats 4000000 in
theorem tI_X0_compare (l : Launch) (hl9 : l.stackTraces = false) (G : GT) (a : Nat → Nat) (p0 : Int32) (p1 : Int32) (hbad : ¬ (vp_in p0 6 ∧ vp_in p1 6)) : TH l G yX0_compare cX0_compare 3 (some .int) 8 [.ref (a 0), .int p0, .int p1] eI := by
  refine TH.ofW (own := RX0) rfl pnN_RX0 (Nat.le_of_ble_eq_true rfl) ?_
  intro p e s m below meth c C ht hk hE ls hl
  have hx := C.1
  have hb := C.2.1
  have hown := C.2.2.2.1
  have hw := C.2.2.2.2
  have hl : lv_has ls 3 [(0, .ref (a 0)), (1, .int p0), (2, .int p1)] := hl
  refine lv_iload_n hx hb dX0_compare_0 rfl (lv_at hl 1 rfl) ?_
  by_cases k0 : vp_in p0 6
  · refine rcSv (as := [.int p0]) (rest := []) C (c_X0_checkMoment l G p0 k0) F_X0_checkMoment rfl bw387 bw388 hE vpn hl.1 dX0_compare_1 ⟨Nat.le_of_ble_eq_true rfl, Nat.le_of_ble_eq_true rfl⟩ rfl (Nat.le_of_ble_eq_true rfl) ⟨Nat.zero_le _, Nat.zero_le _⟩ ?_
    refine lv_iload_n hx hb dX0_compare_4 rfl (lv_at hl 2 rfl) ?_
    exact thS (as := [.int p1]) (rest := []) C (t_X0_checkMoment l hl9 G p1 (fun q => hbad ⟨k0, q⟩)) F_X0_checkMoment rfl bw387 bw388 hE ht hk hl.1 dX0_compare_5 ⟨Nat.le_of_ble_eq_true rfl, Nat.le_of_ble_eq_true rfl⟩ rfl (Nat.le_of_ble_eq_true rfl)
  · exact thS (as := [.int p0]) (rest := []) C (t_X0_checkMoment l hl9 G p0 k0) F_X0_checkMoment rfl bw387 bw388 hE ht hk hl.1 dX0_compare_1 ⟨Nat.le_of_ble_eq_true rfl, Nat.le_of_ble_eq_true rfl⟩ rfl (Nat.le_of_ble_eq_true rfl)

set_option maxRecDepth 100000 in
set_option maxHeartbeats 4000000 in
theorem tI_X0_isSame (l : Launch) (hl9 : l.stackTraces = false) (G : GT) (a : Nat → Nat) (p0 : Int32) (p1 : Int32) (hbad : ¬ (vp_in p0 6 ∧ vp_in p1 6)) : TH l G yX0_isSame cX0_isSame 3 (some .boolean) 8 [.ref (a 0), .int p0, .int p1] eI := by
  refine TH.ofW (own := RX0) rfl pnN_RX0 (Nat.le_of_ble_eq_true rfl) ?_
  intro p e s m below meth c C ht hk hE ls hl
  have hx := C.1
  have hb := C.2.1
  have hown := C.2.2.2.1
  have hw := C.2.2.2.2
  have hl : lv_has ls 3 [(0, .ref (a 0)), (1, .int p0), (2, .int p1)] := hl
  refine lv_iload_n hx hb dX0_isSame_0 rfl (lv_at hl 1 rfl) ?_
  by_cases k0 : vp_in p0 6
  · refine rcSv (as := [.int p0]) (rest := []) C (c_X0_checkMoment l G p0 k0) F_X0_checkMoment rfl bw387 bw388 hE vpn hl.1 dX0_isSame_1 ⟨Nat.le_of_ble_eq_true rfl, Nat.le_of_ble_eq_true rfl⟩ rfl (Nat.le_of_ble_eq_true rfl) ⟨Nat.zero_le _, Nat.zero_le _⟩ ?_
    refine lv_iload_n hx hb dX0_isSame_4 rfl (lv_at hl 2 rfl) ?_
    exact thS (as := [.int p1]) (rest := []) C (t_X0_checkMoment l hl9 G p1 (fun q => hbad ⟨k0, q⟩)) F_X0_checkMoment rfl bw387 bw388 hE ht hk hl.1 dX0_isSame_5 ⟨Nat.le_of_ble_eq_true rfl, Nat.le_of_ble_eq_true rfl⟩ rfl (Nat.le_of_ble_eq_true rfl)
  · exact thS (as := [.int p0]) (rest := []) C (t_X0_checkMoment l hl9 G p0 k0) F_X0_checkMoment rfl bw387 bw388 hE ht hk hl.1 dX0_isSame_1 ⟨Nat.le_of_ble_eq_true rfl, Nat.le_of_ble_eq_true rfl⟩ rfl (Nat.le_of_ble_eq_true rfl)

set_option maxRecDepth 100000 in
set_option maxHeartbeats 4000000 in
theorem tI_X0_withYear (l : Launch) (hl9 : l.stackTraces = false) (G : GT) (a : Nat → Nat) (p0 : Int32) (p1 : Int32) (hbad : ¬ (vp_in p0 6)) : TH l G yX0_withYear cX0_withYear 3 (some .int) 8 [.ref (a 0), .int p0, .int p1] eI := by
  refine TH.ofW (own := RX0) rfl pnN_RX0 (Nat.le_of_ble_eq_true rfl) ?_
  intro p e s m below meth c C ht hk hE ls hl
  have hx := C.1
  have hb := C.2.1
  have hown := C.2.2.2.1
  have hw := C.2.2.2.2
  have hl : lv_has ls 3 [(0, .ref (a 0)), (1, .int p0), (2, .int p1)] := hl
  refine lv_iload_n hx hb dX0_withYear_0 rfl (lv_at hl 1 rfl) ?_
  exact thS (as := [.int p0]) (rest := []) C (t_X0_checkMoment l hl9 G p0 (fun q => hbad q)) F_X0_checkMoment rfl bw387 bw388 hE ht hk hl.1 dX0_withYear_1 ⟨Nat.le_of_ble_eq_true rfl, Nat.le_of_ble_eq_true rfl⟩ rfl (Nat.le_of_ble_eq_true rfl)

set_option maxRecDepth 100000 in
set_option maxHeartbeats 4000000 in
theorem tA_X0_withYear (l : Launch) (hl9 : l.stackTraces = false) (G : GT) (a : Nat → Nat) (p0 : Int32) (p1 : Int32) (h0 : vp_in p0 6) (hbad : ¬ ((¬ p1 < (-9999 : Int32) ∧ p1 ≤ (9999 : Int32)))) : TH l G yX0_withYear cX0_withYear 3 (some .int) 8 [.ref (a 0), .int p0, .int p1] eA := by
  refine TH.ofW (own := RX0) rfl pnN_RX0 (Nat.le_of_ble_eq_true rfl) ?_
  intro p e s m below meth c C ht hk hE ls hl
  have hx := C.1
  have hb := C.2.1
  have hown := C.2.2.2.1
  have hw := C.2.2.2.2
  have hl : lv_has ls 3 [(0, .ref (a 0)), (1, .int p0), (2, .int p1)] := hl
  refine lv_iload_n hx hb dX0_withYear_0 rfl (lv_at hl 1 rfl) ?_
  refine rcSv (as := [.int p0]) (rest := []) C (c_X0_checkMoment l G p0 h0) F_X0_checkMoment rfl bw387 bw388 hE vpn hl.1 dX0_withYear_1 ⟨Nat.le_of_ble_eq_true rfl, Nat.le_of_ble_eq_true rfl⟩ rfl (Nat.le_of_ble_eq_true rfl) ⟨Nat.zero_le _, Nat.zero_le _⟩ ?_
  refine lv_iload_n hx hb dX0_withYear_4 rfl (lv_at hl 2 rfl) ?_
  refine lv_sipush (v := (-9999 : Int32)) hx hb dX0_withYear_5 qs_m9999 ?_
  refine lv_sipush (v := (9999 : Int32)) hx hb dX0_withYear_8 qs_9999 ?_
  exact thS (as := [.int p1, .int (-9999 : Int32), .int (9999 : Int32)]) (rest := []) C (t_X0_checkRange l hl9 G p1 (-9999 : Int32) (9999 : Int32) (fun q => hbad q)) F_X0_checkRange rfl bw308 bw309 hE ht hk hl.1 dX0_withYear_11 ⟨Nat.le_of_ble_eq_true rfl, Nat.le_of_ble_eq_true rfl⟩ rfl (Nat.le_of_ble_eq_true rfl)

set_option maxRecDepth 100000 in
set_option maxHeartbeats 4000000 in
theorem tI_X0_withMonth (l : Launch) (hl9 : l.stackTraces = false) (G : GT) (a : Nat → Nat) (p0 : Int32) (p1 : Int32) (hbad : ¬ (vp_in p0 6)) : TH l G yX0_withMonth cX0_withMonth 3 (some .int) 8 [.ref (a 0), .int p0, .int p1] eI := by
  refine TH.ofW (own := RX0) rfl pnN_RX0 (Nat.le_of_ble_eq_true rfl) ?_
  intro p e s m below meth c C ht hk hE ls hl
  have hx := C.1
  have hb := C.2.1
  have hown := C.2.2.2.1
  have hw := C.2.2.2.2
  have hl : lv_has ls 3 [(0, .ref (a 0)), (1, .int p0), (2, .int p1)] := hl
  refine lv_iload_n hx hb dX0_withMonth_0 rfl (lv_at hl 1 rfl) ?_
  exact thS (as := [.int p0]) (rest := []) C (t_X0_checkMoment l hl9 G p0 (fun q => hbad q)) F_X0_checkMoment rfl bw387 bw388 hE ht hk hl.1 dX0_withMonth_1 ⟨Nat.le_of_ble_eq_true rfl, Nat.le_of_ble_eq_true rfl⟩ rfl (Nat.le_of_ble_eq_true rfl)

set_option maxRecDepth 100000 in
set_option maxHeartbeats 4000000 in
theorem tA_X0_withMonth (l : Launch) (hl9 : l.stackTraces = false) (G : GT) (a : Nat → Nat) (p0 : Int32) (p1 : Int32) (h0 : vp_in p0 6) (hbad : ¬ ((¬ p1 < (1 : Int32) ∧ p1 ≤ (12 : Int32)))) : TH l G yX0_withMonth cX0_withMonth 3 (some .int) 8 [.ref (a 0), .int p0, .int p1] eA := by
  refine TH.ofW (own := RX0) rfl pnN_RX0 (Nat.le_of_ble_eq_true rfl) ?_
  intro p e s m below meth c C ht hk hE ls hl
  have hx := C.1
  have hb := C.2.1
  have hown := C.2.2.2.1
  have hw := C.2.2.2.2
  have hl : lv_has ls 3 [(0, .ref (a 0)), (1, .int p0), (2, .int p1)] := hl
  refine lv_iload_n hx hb dX0_withMonth_0 rfl (lv_at hl 1 rfl) ?_
  refine rcSv (as := [.int p0]) (rest := []) C (c_X0_checkMoment l G p0 h0) F_X0_checkMoment rfl bw387 bw388 hE vpn hl.1 dX0_withMonth_1 ⟨Nat.le_of_ble_eq_true rfl, Nat.le_of_ble_eq_true rfl⟩ rfl (Nat.le_of_ble_eq_true rfl) ⟨Nat.zero_le _, Nat.zero_le _⟩ ?_
  refine lv_iload_n hx hb dX0_withMonth_4 rfl (lv_at hl 2 rfl) ?_
  refine lv_iconst (v := (1 : Int32)) hx hb dX0_withMonth_5 qi_1 ?_
  refine lv_bipush (v := (12 : Int32)) hx hb dX0_withMonth_6 qb_12 ?_
  exact thS (as := [.int p1, .int (1 : Int32), .int (12 : Int32)]) (rest := []) C (t_X0_checkRange l hl9 G p1 (1 : Int32) (12 : Int32) (fun q => hbad q)) F_X0_checkRange rfl bw308 bw309 hE ht hk hl.1 dX0_withMonth_8 ⟨Nat.le_of_ble_eq_true rfl, Nat.le_of_ble_eq_true rfl⟩ rfl (Nat.le_of_ble_eq_true rfl)

set_option maxRecDepth 100000 in
set_option maxHeartbeats 4000000 in
theorem tI_X0_withDayOfMonth (l : Launch) (hl9 : l.stackTraces = false) (G : GT) (a : Nat → Nat) (p0 : Int32) (p1 : Int32) (hbad : ¬ (vp_in p0 6)) : TH l G yX0_withDayOfMonth cX0_withDayOfMonth 3 (some .int) 8 [.ref (a 0), .int p0, .int p1] eI := by
  refine TH.ofW (own := RX0) rfl pnN_RX0 (Nat.le_of_ble_eq_true rfl) ?_
  intro p e s m below meth c C ht hk hE ls hl
  have hx := C.1
  have hb := C.2.1
  have hown := C.2.2.2.1
  have hw := C.2.2.2.2
  have hl : lv_has ls 3 [(0, .ref (a 0)), (1, .int p0), (2, .int p1)] := hl
  refine lv_iload_n hx hb dX0_withDayOfMonth_0 rfl (lv_at hl 1 rfl) ?_
  exact thS (as := [.int p0]) (rest := []) C (t_X0_checkMoment l hl9 G p0 (fun q => hbad q)) F_X0_checkMoment rfl bw387 bw388 hE ht hk hl.1 dX0_withDayOfMonth_1 ⟨Nat.le_of_ble_eq_true rfl, Nat.le_of_ble_eq_true rfl⟩ rfl (Nat.le_of_ble_eq_true rfl)

set_option maxRecDepth 100000 in
set_option maxHeartbeats 4000000 in
theorem tA_X0_withDayOfMonth (l : Launch) (hl9 : l.stackTraces = false) (G : GT) (a : Nat → Nat) (p0 : Int32) (p1 : Int32) (h0 : vp_in p0 6) (hbad : ¬ ((¬ p1 < (1 : Int32) ∧ p1 ≤ (31 : Int32)))) : TH l G yX0_withDayOfMonth cX0_withDayOfMonth 3 (some .int) 8 [.ref (a 0), .int p0, .int p1] eA := by
  refine TH.ofW (own := RX0) rfl pnN_RX0 (Nat.le_of_ble_eq_true rfl) ?_
  intro p e s m below meth c C ht hk hE ls hl
  have hx := C.1
  have hb := C.2.1
  have hown := C.2.2.2.1
  have hw := C.2.2.2.2
  have hl : lv_has ls 3 [(0, .ref (a 0)), (1, .int p0), (2, .int p1)] := hl
  refine lv_iload_n hx hb dX0_withDayOfMonth_0 rfl (lv_at hl 1 rfl) ?_
  refine rcSv (as := [.int p0]) (rest := []) C (c_X0_checkMoment l G p0 h0) F_X0_checkMoment rfl bw387 bw388 hE vpn hl.1 dX0_withDayOfMonth_1 ⟨Nat.le_of_ble_eq_true rfl, Nat.le_of_ble_eq_true rfl⟩ rfl (Nat.le_of_ble_eq_true rfl) ⟨Nat.zero_le _, Nat.zero_le _⟩ ?_
  refine lv_iload_n hx hb dX0_withDayOfMonth_4 rfl (lv_at hl 2 rfl) ?_
  refine lv_iconst (v := (1 : Int32)) hx hb dX0_withDayOfMonth_5 qi_1 ?_
  refine lv_bipush (v := (31 : Int32)) hx hb dX0_withDayOfMonth_6 qb_31 ?_
  exact thS (as := [.int p1, .int (1 : Int32), .int (31 : Int32)]) (rest := []) C (t_X0_checkRange l hl9 G p1 (1 : Int32) (31 : Int32) (fun q => hbad q)) F_X0_checkRange rfl bw308 bw309 hE ht hk hl.1 dX0_withDayOfMonth_8 ⟨Nat.le_of_ble_eq_true rfl, Nat.le_of_ble_eq_true rfl⟩ rfl (Nat.le_of_ble_eq_true rfl)

set_option maxRecDepth 100000 in
set_option maxHeartbeats 4000000 in
theorem tI_X0_withDayOfYear (l : Launch) (hl9 : l.stackTraces = false) (G : GT) (a : Nat → Nat) (p0 : Int32) (p1 : Int32) (hbad : ¬ (vp_in p0 6)) : TH l G yX0_withDayOfYear cX0_withDayOfYear 3 (some .int) 8 [.ref (a 0), .int p0, .int p1] eI := by
  refine TH.ofW (own := RX0) rfl pnN_RX0 (Nat.le_of_ble_eq_true rfl) ?_
  intro p e s m below meth c C ht hk hE ls hl
  have hx := C.1
  have hb := C.2.1
  have hown := C.2.2.2.1
  have hw := C.2.2.2.2
  have hl : lv_has ls 3 [(0, .ref (a 0)), (1, .int p0), (2, .int p1)] := hl
  refine lv_iload_n hx hb dX0_withDayOfYear_0 rfl (lv_at hl 1 rfl) ?_
  exact thS (as := [.int p0]) (rest := []) C (t_X0_checkMoment l hl9 G p0 (fun q => hbad q)) F_X0_checkMoment rfl bw387 bw388 hE ht hk hl.1 dX0_withDayOfYear_1 ⟨Nat.le_of_ble_eq_true rfl, Nat.le_of_ble_eq_true rfl⟩ rfl (Nat.le_of_ble_eq_true rfl)

set_option maxRecDepth 100000 in
set_option maxHeartbeats 4000000 in
theorem tA_X0_withDayOfYear (l : Launch) (hl9 : l.stackTraces = false) (G : GT) (a : Nat → Nat) (p0 : Int32) (p1 : Int32) (h0 : vp_in p0 6) (hbad : ¬ ((¬ p1 < (1 : Int32) ∧ p1 ≤ (366 : Int32)))) : TH l G yX0_withDayOfYear cX0_withDayOfYear 3 (some .int) 8 [.ref (a 0), .int p0, .int p1] eA := by
  refine TH.ofW (own := RX0) rfl pnN_RX0 (Nat.le_of_ble_eq_true rfl) ?_
  intro p e s m below meth c C ht hk hE ls hl
  have hx := C.1
  have hb := C.2.1
  have hown := C.2.2.2.1
  have hw := C.2.2.2.2
  have hl : lv_has ls 3 [(0, .ref (a 0)), (1, .int p0), (2, .int p1)] := hl
  refine lv_iload_n hx hb dX0_withDayOfYear_0 rfl (lv_at hl 1 rfl) ?_
  refine rcSv (as := [.int p0]) (rest := []) C (c_X0_checkMoment l G p0 h0) F_X0_checkMoment rfl bw387 bw388 hE vpn hl.1 dX0_withDayOfYear_1 ⟨Nat.le_of_ble_eq_true rfl, Nat.le_of_ble_eq_true rfl⟩ rfl (Nat.le_of_ble_eq_true rfl) ⟨Nat.zero_le _, Nat.zero_le _⟩ ?_
  refine lv_iload_n hx hb dX0_withDayOfYear_4 rfl (lv_at hl 2 rfl) ?_
  refine lv_iconst (v := (1 : Int32)) hx hb dX0_withDayOfYear_5 qi_1 ?_
  refine lv_sipush (v := (366 : Int32)) hx hb dX0_withDayOfYear_6 qs_366 ?_
  exact thS (as := [.int p1, .int (1 : Int32), .int (366 : Int32)]) (rest := []) C (t_X0_checkRange l hl9 G p1 (1 : Int32) (366 : Int32) (fun q => hbad q)) F_X0_checkRange rfl bw308 bw309 hE ht hk hl.1 dX0_withDayOfYear_9 ⟨Nat.le_of_ble_eq_true rfl, Nat.le_of_ble_eq_true rfl⟩ rfl (Nat.le_of_ble_eq_true rfl)

set_option maxRecDepth 100000 in
set_option maxHeartbeats 4000000 in
theorem tI_X0_withHour (l : Launch) (hl9 : l.stackTraces = false) (G : GT) (a : Nat → Nat) (p0 : Int32) (p1 : Int32) (hbad : ¬ (vp_in p0 6)) : TH l G yX0_withHour cX0_withHour 5 (some .int) 8 [.ref (a 0), .int p0, .int p1] eI := by
  refine TH.ofW (own := RX0) rfl pnN_RX0 (Nat.le_of_ble_eq_true rfl) ?_
  intro p e s m below meth c C ht hk hE ls hl
  have hx := C.1
  have hb := C.2.1
  have hown := C.2.2.2.1
  have hw := C.2.2.2.2
  have hl : lv_has ls 5 [(0, .ref (a 0)), (1, .int p0), (2, .int p1)] := hl
  refine lv_iload_n hx hb dX0_withHour_0 rfl (lv_at hl 1 rfl) ?_
  exact thS (as := [.int p0]) (rest := []) C (t_X0_checkMoment l hl9 G p0 (fun q => hbad q)) F_X0_checkMoment rfl bw387 bw388 hE ht hk hl.1 dX0_withHour_1 ⟨Nat.le_of_ble_eq_true rfl, Nat.le_of_ble_eq_true rfl⟩ rfl (Nat.le_of_ble_eq_true rfl)

set_option maxRecDepth 100000 in
set_option maxHeartbeats 4000000 in
theorem tA_X0_withHour (l : Launch) (hl9 : l.stackTraces = false) (G : GT) (a : Nat → Nat) (p0 : Int32) (p1 : Int32) (h0 : vp_in p0 6) (hbad : ¬ ((¬ p1 < (0 : Int32) ∧ p1 ≤ (23 : Int32)))) : TH l G yX0_withHour cX0_withHour 5 (some .int) 8 [.ref (a 0), .int p0, .int p1] eA := by
  refine TH.ofW (own := RX0) rfl pnN_RX0 (Nat.le_of_ble_eq_true rfl) ?_
  intro p e s m below meth c C ht hk hE ls hl
  have hx := C.1
  have hb := C.2.1
  have hown := C.2.2.2.1
  have hw := C.2.2.2.2
  have hl : lv_has ls 5 [(0, .ref (a 0)), (1, .int p0), (2, .int p1)] := hl
  refine lv_iload_n hx hb dX0_withHour_0 rfl (lv_at hl 1 rfl) ?_
  refine rcSv (as := [.int p0]) (rest := []) C (c_X0_checkMoment l G p0 h0) F_X0_checkMoment rfl bw387 bw388 hE vpn hl.1 dX0_withHour_1 ⟨Nat.le_of_ble_eq_true rfl, Nat.le_of_ble_eq_true rfl⟩ rfl (Nat.le_of_ble_eq_true rfl) ⟨Nat.zero_le _, Nat.zero_le _⟩ ?_
  refine lv_iload_n hx hb dX0_withHour_4 rfl (lv_at hl 2 rfl) ?_
  refine lv_iconst (v := (0 : Int32)) hx hb dX0_withHour_5 qi_0 ?_
  refine lv_bipush (v := (23 : Int32)) hx hb dX0_withHour_6 qb_23 ?_
  exact thS (as := [.int p1, .int (0 : Int32), .int (23 : Int32)]) (rest := []) C (t_X0_checkRange l hl9 G p1 (0 : Int32) (23 : Int32) (fun q => hbad q)) F_X0_checkRange rfl bw308 bw309 hE ht hk hl.1 dX0_withHour_8 ⟨Nat.le_of_ble_eq_true rfl, Nat.le_of_ble_eq_true rfl⟩ rfl (Nat.le_of_ble_eq_true rfl)

set_option maxRecDepth 100000 in
set_option maxHeartbeats 4000000 in
theorem tI_X0_withMinute (l : Launch) (hl9 : l.stackTraces = false) (G : GT) (a : Nat → Nat) (p0 : Int32) (p1 : Int32) (hbad : ¬ (vp_in p0 6)) : TH l G yX0_withMinute cX0_withMinute 5 (some .int) 8 [.ref (a 0), .int p0, .int p1] eI := by
  refine TH.ofW (own := RX0) rfl pnN_RX0 (Nat.le_of_ble_eq_true rfl) ?_
  intro p e s m below meth c C ht hk hE ls hl
  have hx := C.1
  have hb := C.2.1
  have hown := C.2.2.2.1
  have hw := C.2.2.2.2
  have hl : lv_has ls 5 [(0, .ref (a 0)), (1, .int p0), (2, .int p1)] := hl
  refine lv_iload_n hx hb dX0_withMinute_0 rfl (lv_at hl 1 rfl) ?_
  exact thS (as := [.int p0]) (rest := []) C (t_X0_checkMoment l hl9 G p0 (fun q => hbad q)) F_X0_checkMoment rfl bw387 bw388 hE ht hk hl.1 dX0_withMinute_1 ⟨Nat.le_of_ble_eq_true rfl, Nat.le_of_ble_eq_true rfl⟩ rfl (Nat.le_of_ble_eq_true rfl)

set_option maxRecDepth 100000 in
set_option maxHeartbeats 4000000 in
theorem tA_X0_withMinute (l : Launch) (hl9 : l.stackTraces = false) (G : GT) (a : Nat → Nat) (p0 : Int32) (p1 : Int32) (h0 : vp_in p0 6) (hbad : ¬ ((¬ p1 < (0 : Int32) ∧ p1 ≤ (59 : Int32)))) : TH l G yX0_withMinute cX0_withMinute 5 (some .int) 8 [.ref (a 0), .int p0, .int p1] eA := by
  refine TH.ofW (own := RX0) rfl pnN_RX0 (Nat.le_of_ble_eq_true rfl) ?_
  intro p e s m below meth c C ht hk hE ls hl
  have hx := C.1
  have hb := C.2.1
  have hown := C.2.2.2.1
  have hw := C.2.2.2.2
  have hl : lv_has ls 5 [(0, .ref (a 0)), (1, .int p0), (2, .int p1)] := hl
  refine lv_iload_n hx hb dX0_withMinute_0 rfl (lv_at hl 1 rfl) ?_
  refine rcSv (as := [.int p0]) (rest := []) C (c_X0_checkMoment l G p0 h0) F_X0_checkMoment rfl bw387 bw388 hE vpn hl.1 dX0_withMinute_1 ⟨Nat.le_of_ble_eq_true rfl, Nat.le_of_ble_eq_true rfl⟩ rfl (Nat.le_of_ble_eq_true rfl) ⟨Nat.zero_le _, Nat.zero_le _⟩ ?_
  refine lv_iload_n hx hb dX0_withMinute_4 rfl (lv_at hl 2 rfl) ?_
  refine lv_iconst (v := (0 : Int32)) hx hb dX0_withMinute_5 qi_0 ?_
  refine lv_bipush (v := (59 : Int32)) hx hb dX0_withMinute_6 qb_59 ?_
  exact thS (as := [.int p1, .int (0 : Int32), .int (59 : Int32)]) (rest := []) C (t_X0_checkRange l hl9 G p1 (0 : Int32) (59 : Int32) (fun q => hbad q)) F_X0_checkRange rfl bw308 bw309 hE ht hk hl.1 dX0_withMinute_8 ⟨Nat.le_of_ble_eq_true rfl, Nat.le_of_ble_eq_true rfl⟩ rfl (Nat.le_of_ble_eq_true rfl)

set_option maxRecDepth 100000 in
set_option maxHeartbeats 4000000 in
theorem tI_X0_withSecond (l : Launch) (hl9 : l.stackTraces = false) (G : GT) (a : Nat → Nat) (p0 : Int32) (p1 : Int32) (hbad : ¬ (vp_in p0 6)) : TH l G yX0_withSecond cX0_withSecond 5 (some .int) 8 [.ref (a 0), .int p0, .int p1] eI := by
  refine TH.ofW (own := RX0) rfl pnN_RX0 (Nat.le_of_ble_eq_true rfl) ?_
  intro p e s m below meth c C ht hk hE ls hl
  have hx := C.1
  have hb := C.2.1
  have hown := C.2.2.2.1
  have hw := C.2.2.2.2
  have hl : lv_has ls 5 [(0, .ref (a 0)), (1, .int p0), (2, .int p1)] := hl
  refine lv_iload_n hx hb dX0_withSecond_0 rfl (lv_at hl 1 rfl) ?_
  exact thS (as := [.int p0]) (rest := []) C (t_X0_checkMoment l hl9 G p0 (fun q => hbad q)) F_X0_checkMoment rfl bw387 bw388 hE ht hk hl.1 dX0_withSecond_1 ⟨Nat.le_of_ble_eq_true rfl, Nat.le_of_ble_eq_true rfl⟩ rfl (Nat.le_of_ble_eq_true rfl)

set_option maxRecDepth 100000 in
set_option maxHeartbeats 4000000 in
theorem tA_X0_withSecond (l : Launch) (hl9 : l.stackTraces = false) (G : GT) (a : Nat → Nat) (p0 : Int32) (p1 : Int32) (h0 : vp_in p0 6) (hbad : ¬ ((¬ p1 < (0 : Int32) ∧ p1 ≤ (59 : Int32)))) : TH l G yX0_withSecond cX0_withSecond 5 (some .int) 8 [.ref (a 0), .int p0, .int p1] eA := by
  refine TH.ofW (own := RX0) rfl pnN_RX0 (Nat.le_of_ble_eq_true rfl) ?_
  intro p e s m below meth c C ht hk hE ls hl
  have hx := C.1
  have hb := C.2.1
  have hown := C.2.2.2.1
  have hw := C.2.2.2.2
  have hl : lv_has ls 5 [(0, .ref (a 0)), (1, .int p0), (2, .int p1)] := hl
  refine lv_iload_n hx hb dX0_withSecond_0 rfl (lv_at hl 1 rfl) ?_
  refine rcSv (as := [.int p0]) (rest := []) C (c_X0_checkMoment l G p0 h0) F_X0_checkMoment rfl bw387 bw388 hE vpn hl.1 dX0_withSecond_1 ⟨Nat.le_of_ble_eq_true rfl, Nat.le_of_ble_eq_true rfl⟩ rfl (Nat.le_of_ble_eq_true rfl) ⟨Nat.zero_le _, Nat.zero_le _⟩ ?_
  refine lv_iload_n hx hb dX0_withSecond_4 rfl (lv_at hl 2 rfl) ?_
  refine lv_iconst (v := (0 : Int32)) hx hb dX0_withSecond_5 qi_0 ?_
  refine lv_bipush (v := (59 : Int32)) hx hb dX0_withSecond_6 qb_59 ?_
  exact thS (as := [.int p1, .int (0 : Int32), .int (59 : Int32)]) (rest := []) C (t_X0_checkRange l hl9 G p1 (0 : Int32) (59 : Int32) (fun q => hbad q)) F_X0_checkRange rfl bw308 bw309 hE ht hk hl.1 dX0_withSecond_8 ⟨Nat.le_of_ble_eq_true rfl, Nat.le_of_ble_eq_true rfl⟩ rfl (Nat.le_of_ble_eq_true rfl)

set_option maxRecDepth 100000 in
set_option maxHeartbeats 4000000 in
theorem tI_X0_withNano (l : Launch) (hl9 : l.stackTraces = false) (G : GT) (a : Nat → Nat) (p0 : Int32) (p1 : Int32) (hbad : ¬ (vp_in p0 6)) : TH l G yX0_withNano cX0_withNano 5 (some .int) 8 [.ref (a 0), .int p0, .int p1] eI := by
  refine TH.ofW (own := RX0) rfl pnN_RX0 (Nat.le_of_ble_eq_true rfl) ?_
  intro p e s m below meth c C ht hk hE ls hl
  have hx := C.1
  have hb := C.2.1
  have hown := C.2.2.2.1
  have hw := C.2.2.2.2
  have hl : lv_has ls 5 [(0, .ref (a 0)), (1, .int p0), (2, .int p1)] := hl
  refine lv_iload_n hx hb dX0_withNano_0 rfl (lv_at hl 1 rfl) ?_
  exact thS (as := [.int p0]) (rest := []) C (t_X0_checkMoment l hl9 G p0 (fun q => hbad q)) F_X0_checkMoment rfl bw387 bw388 hE ht hk hl.1 dX0_withNano_1 ⟨Nat.le_of_ble_eq_true rfl, Nat.le_of_ble_eq_true rfl⟩ rfl (Nat.le_of_ble_eq_true rfl)

set_option maxRecDepth 100000 in
set_option maxHeartbeats 4000000 in
theorem tA_X0_withNano (l : Launch) (hl9 : l.stackTraces = false) (G : GT) (a : Nat → Nat) (p0 : Int32) (p1 : Int32) (h0 : vp_in p0 6) (hbad : ¬ ((¬ p1 < (0 : Int32) ∧ p1 ≤ (999999999 : Int32)))) : TH l G yX0_withNano cX0_withNano 5 (some .int) 8 [.ref (a 0), .int p0, .int p1] eA := by
  refine TH.ofW (own := RX0) rfl pnN_RX0 (Nat.le_of_ble_eq_true rfl) ?_
  intro p e s m below meth c C ht hk hE ls hl
  have hx := C.1
  have hb := C.2.1
  have hown := C.2.2.2.1
  have hw := C.2.2.2.2
  have hl : lv_has ls 5 [(0, .ref (a 0)), (1, .int p0), (2, .int p1)] := hl
  refine lv_iload_n hx hb dX0_withNano_0 rfl (lv_at hl 1 rfl) ?_
  refine rcSv (as := [.int p0]) (rest := []) C (c_X0_checkMoment l G p0 h0) F_X0_checkMoment rfl bw387 bw388 hE vpn hl.1 dX0_withNano_1 ⟨Nat.le_of_ble_eq_true rfl, Nat.le_of_ble_eq_true rfl⟩ rfl (Nat.le_of_ble_eq_true rfl) ⟨Nat.zero_le _, Nat.zero_le _⟩ ?_
  refine lv_iload_n hx hb dX0_withNano_4 rfl (lv_at hl 2 rfl) ?_
  refine lv_iconst (v := (0 : Int32)) hx hb dX0_withNano_5 qi_0 ?_
  refine lv_ldc (v := (999999999 : Int32)) hx hb hown (hw _ bw378) dX0_withNano_6 ?_
  exact thS (as := [.int p1, .int (0 : Int32), .int (999999999 : Int32)]) (rest := []) C (t_X0_checkRange l hl9 G p1 (0 : Int32) (999999999 : Int32) (fun q => hbad q)) F_X0_checkRange rfl bw308 bw309 hE ht hk hl.1 dX0_withNano_8 ⟨Nat.le_of_ble_eq_true rfl, Nat.le_of_ble_eq_true rfl⟩ rfl (Nat.le_of_ble_eq_true rfl)

set_option maxRecDepth 100000 in
set_option maxHeartbeats 4000000 in
theorem tI_X0_truncate (l : Launch) (hl9 : l.stackTraces = false) (G : GT) (a : Nat → Nat) (p0 : Int32) (p1 : Int32) (hbad : ¬ (vp_in p0 6)) : TH l G yX0_truncate cX0_truncate 3 (some .int) 8 [.ref (a 0), .int p0, .int p1] eI := by
  refine TH.ofW (own := RX0) rfl pnN_RX0 (Nat.le_of_ble_eq_true rfl) ?_
  intro p e s m below meth c C ht hk hE ls hl
  have hx := C.1
  have hb := C.2.1
  have hown := C.2.2.2.1
  have hw := C.2.2.2.2
  have hl : lv_has ls 3 [(0, .ref (a 0)), (1, .int p0), (2, .int p1)] := hl
  refine lv_iload_n hx hb dX0_truncate_0 rfl (lv_at hl 1 rfl) ?_
  exact thS (as := [.int p0]) (rest := []) C (t_X0_checkMoment l hl9 G p0 (fun q => hbad q)) F_X0_checkMoment rfl bw387 bw388 hE ht hk hl.1 dX0_truncate_1 ⟨Nat.le_of_ble_eq_true rfl, Nat.le_of_ble_eq_true rfl⟩ rfl (Nat.le_of_ble_eq_true rfl)

set_option maxRecDepth 100000 in
set_option maxHeartbeats 4000000 in
theorem tA_X0_truncate (l : Launch) (hl9 : l.stackTraces = false) (G : GT) (a : Nat → Nat) (p0 : Int32) (p1 : Int32) (h0 : vp_in p0 6) (hbad : ¬ ((¬ p1 < (0 : Int32) ∧ p1 ≤ (7 : Int32)))) : TH l G yX0_truncate cX0_truncate 3 (some .int) 8 [.ref (a 0), .int p0, .int p1] eA := by
  refine TH.ofW (own := RX0) rfl pnN_RX0 (Nat.le_of_ble_eq_true rfl) ?_
  intro p e s m below meth c C ht hk hE ls hl
  have hx := C.1
  have hb := C.2.1
  have hown := C.2.2.2.1
  have hw := C.2.2.2.2
  have hl : lv_has ls 3 [(0, .ref (a 0)), (1, .int p0), (2, .int p1)] := hl
  refine lv_iload_n hx hb dX0_truncate_0 rfl (lv_at hl 1 rfl) ?_
  refine rcSv (as := [.int p0]) (rest := []) C (c_X0_checkMoment l G p0 h0) F_X0_checkMoment rfl bw387 bw388 hE vpn hl.1 dX0_truncate_1 ⟨Nat.le_of_ble_eq_true rfl, Nat.le_of_ble_eq_true rfl⟩ rfl (Nat.le_of_ble_eq_true rfl) ⟨Nat.zero_le _, Nat.zero_le _⟩ ?_
  refine lv_iload_n hx hb dX0_truncate_4 rfl (lv_at hl 2 rfl) ?_
  refine lv_iconst (v := (0 : Int32)) hx hb dX0_truncate_5 qi_0 ?_
  refine lv_bipush (v := (7 : Int32)) hx hb dX0_truncate_6 qb_7 ?_
  exact thS (as := [.int p1, .int (0 : Int32), .int (7 : Int32)]) (rest := []) C (t_X0_checkRange l hl9 G p1 (0 : Int32) (7 : Int32) (fun q => hbad q)) F_X0_checkRange rfl bw308 bw309 hE ht hk hl.1 dX0_truncate_8 ⟨Nat.le_of_ble_eq_true rfl, Nat.le_of_ble_eq_true rfl⟩ rfl (Nat.le_of_ble_eq_true rfl)

set_option maxRecDepth 100000 in
set_option maxHeartbeats 4000000 in
theorem tI_X0_plusYears (l : Launch) (hl9 : l.stackTraces = false) (G : GT) (a : Nat → Nat) (p0 : Int32) (p1 : Int32) (hbad : ¬ (vp_in p0 6)) : TH l G yX0_plusYears cX0_plusYears 3 (some .int) 8 [.ref (a 0), .int p0, .int p1] eI := by
  refine TH.ofW (own := RX0) rfl pnN_RX0 (Nat.le_of_ble_eq_true rfl) ?_
  intro p e s m below meth c C ht hk hE ls hl
  have hx := C.1
  have hb := C.2.1
  have hown := C.2.2.2.1
  have hw := C.2.2.2.2
  have hl : lv_has ls 3 [(0, .ref (a 0)), (1, .int p0), (2, .int p1)] := hl
  refine lv_iload_n hx hb dX0_plusYears_0 rfl (lv_at hl 1 rfl) ?_
  exact thS (as := [.int p0]) (rest := []) C (t_X0_checkMoment l hl9 G p0 (fun q => hbad q)) F_X0_checkMoment rfl bw387 bw388 hE ht hk hl.1 dX0_plusYears_1 ⟨Nat.le_of_ble_eq_true rfl, Nat.le_of_ble_eq_true rfl⟩ rfl (Nat.le_of_ble_eq_true rfl)

set_option maxRecDepth 100000 in
set_option maxHeartbeats 4000000 in
theorem tA_X0_plusYears (l : Launch) (hl9 : l.stackTraces = false) (G : GT) (a : Nat → Nat) (p0 : Int32) (p1 : Int32) (h0 : vp_in p0 6) (hbad : ¬ ((¬ p1 < (-100000000 : Int32) ∧ p1 ≤ (100000000 : Int32)))) : TH l G yX0_plusYears cX0_plusYears 3 (some .int) 8 [.ref (a 0), .int p0, .int p1] eA := by
  refine TH.ofW (own := RX0) rfl pnN_RX0 (Nat.le_of_ble_eq_true rfl) ?_
  intro p e s m below meth c C ht hk hE ls hl
  have hx := C.1
  have hb := C.2.1
  have hown := C.2.2.2.1
  have hw := C.2.2.2.2
  have hl : lv_has ls 3 [(0, .ref (a 0)), (1, .int p0), (2, .int p1)] := hl
  refine lv_iload_n hx hb dX0_plusYears_0 rfl (lv_at hl 1 rfl) ?_
  refine rcSv (as := [.int p0]) (rest := []) C (c_X0_checkMoment l G p0 h0) F_X0_checkMoment rfl bw387 bw388 hE vpn hl.1 dX0_plusYears_1 ⟨Nat.le_of_ble_eq_true rfl, Nat.le_of_ble_eq_true rfl⟩ rfl (Nat.le_of_ble_eq_true rfl) ⟨Nat.zero_le _, Nat.zero_le _⟩ ?_
  refine lv_iload_n hx hb dX0_plusYears_4 rfl (lv_at hl 2 rfl) ?_
  refine lv_ldc (v := (-100000000 : Int32)) hx hb hown (hw _ bw541) dX0_plusYears_5 ?_
  refine lv_ldc (v := (100000000 : Int32)) hx hb hown (hw _ bw542) dX0_plusYears_7 ?_
  exact thS (as := [.int p1, .int (-100000000 : Int32), .int (100000000 : Int32)]) (rest := []) C (t_X0_checkRange l hl9 G p1 (-100000000 : Int32) (100000000 : Int32) (fun q => hbad q)) F_X0_checkRange rfl bw308 bw309 hE ht hk hl.1 dX0_plusYears_9 ⟨Nat.le_of_ble_eq_true rfl, Nat.le_of_ble_eq_true rfl⟩ rfl (Nat.le_of_ble_eq_true rfl)

set_option maxRecDepth 100000 in
set_option maxHeartbeats 4000000 in
theorem tI_X0_minusYears (l : Launch) (hl9 : l.stackTraces = false) (G : GT) (a : Nat → Nat) (p0 : Int32) (p1 : Int32) (hbad : ¬ (vp_in p0 6)) : TH l G yX0_minusYears cX0_minusYears 3 (some .int) 8 [.ref (a 0), .int p0, .int p1] eI := by
  refine TH.ofW (own := RX0) rfl pnN_RX0 (Nat.le_of_ble_eq_true rfl) ?_
  intro p e s m below meth c C ht hk hE ls hl
  have hx := C.1
  have hb := C.2.1
  have hown := C.2.2.2.1
  have hw := C.2.2.2.2
  have hl : lv_has ls 3 [(0, .ref (a 0)), (1, .int p0), (2, .int p1)] := hl
  refine lv_iload_n hx hb dX0_minusYears_0 rfl (lv_at hl 1 rfl) ?_
  exact thS (as := [.int p0]) (rest := []) C (t_X0_checkMoment l hl9 G p0 (fun q => hbad q)) F_X0_checkMoment rfl bw387 bw388 hE ht hk hl.1 dX0_minusYears_1 ⟨Nat.le_of_ble_eq_true rfl, Nat.le_of_ble_eq_true rfl⟩ rfl (Nat.le_of_ble_eq_true rfl)

set_option maxRecDepth 100000 in
set_option maxHeartbeats 4000000 in
theorem tA_X0_minusYears (l : Launch) (hl9 : l.stackTraces = false) (G : GT) (a : Nat → Nat) (p0 : Int32) (p1 : Int32) (h0 : vp_in p0 6) (hbad : ¬ ((¬ p1 < (-100000000 : Int32) ∧ p1 ≤ (100000000 : Int32)))) : TH l G yX0_minusYears cX0_minusYears 3 (some .int) 8 [.ref (a 0), .int p0, .int p1] eA := by
  refine TH.ofW (own := RX0) rfl pnN_RX0 (Nat.le_of_ble_eq_true rfl) ?_
  intro p e s m below meth c C ht hk hE ls hl
  have hx := C.1
  have hb := C.2.1
  have hown := C.2.2.2.1
  have hw := C.2.2.2.2
  have hl : lv_has ls 3 [(0, .ref (a 0)), (1, .int p0), (2, .int p1)] := hl
  refine lv_iload_n hx hb dX0_minusYears_0 rfl (lv_at hl 1 rfl) ?_
  refine rcSv (as := [.int p0]) (rest := []) C (c_X0_checkMoment l G p0 h0) F_X0_checkMoment rfl bw387 bw388 hE vpn hl.1 dX0_minusYears_1 ⟨Nat.le_of_ble_eq_true rfl, Nat.le_of_ble_eq_true rfl⟩ rfl (Nat.le_of_ble_eq_true rfl) ⟨Nat.zero_le _, Nat.zero_le _⟩ ?_
  refine lv_iload_n hx hb dX0_minusYears_4 rfl (lv_at hl 2 rfl) ?_
  refine lv_ldc (v := (-100000000 : Int32)) hx hb hown (hw _ bw541) dX0_minusYears_5 ?_
  refine lv_ldc (v := (100000000 : Int32)) hx hb hown (hw _ bw542) dX0_minusYears_7 ?_
  exact thS (as := [.int p1, .int (-100000000 : Int32), .int (100000000 : Int32)]) (rest := []) C (t_X0_checkRange l hl9 G p1 (-100000000 : Int32) (100000000 : Int32) (fun q => hbad q)) F_X0_checkRange rfl bw308 bw309 hE ht hk hl.1 dX0_minusYears_9 ⟨Nat.le_of_ble_eq_true rfl, Nat.le_of_ble_eq_true rfl⟩ rfl (Nat.le_of_ble_eq_true rfl)

set_option maxRecDepth 100000 in
set_option maxHeartbeats 4000000 in
theorem tI_X0_plusMonths (l : Launch) (hl9 : l.stackTraces = false) (G : GT) (a : Nat → Nat) (p0 : Int32) (p1 : Int32) (hbad : ¬ (vp_in p0 6)) : TH l G yX0_plusMonths cX0_plusMonths 3 (some .int) 8 [.ref (a 0), .int p0, .int p1] eI := by
  refine TH.ofW (own := RX0) rfl pnN_RX0 (Nat.le_of_ble_eq_true rfl) ?_
  intro p e s m below meth c C ht hk hE ls hl
  have hx := C.1
  have hb := C.2.1
  have hown := C.2.2.2.1
  have hw := C.2.2.2.2
  have hl : lv_has ls 3 [(0, .ref (a 0)), (1, .int p0), (2, .int p1)] := hl
  refine lv_iload_n hx hb dX0_plusMonths_0 rfl (lv_at hl 1 rfl) ?_
  exact thS (as := [.int p0]) (rest := []) C (t_X0_checkMoment l hl9 G p0 (fun q => hbad q)) F_X0_checkMoment rfl bw387 bw388 hE ht hk hl.1 dX0_plusMonths_1 ⟨Nat.le_of_ble_eq_true rfl, Nat.le_of_ble_eq_true rfl⟩ rfl (Nat.le_of_ble_eq_true rfl)

set_option maxRecDepth 100000 in
set_option maxHeartbeats 4000000 in
theorem tI_X0_minusMonths (l : Launch) (hl9 : l.stackTraces = false) (G : GT) (a : Nat → Nat) (p0 : Int32) (p1 : Int32) (hbad : ¬ (vp_in p0 6)) : TH l G yX0_minusMonths cX0_minusMonths 3 (some .int) 8 [.ref (a 0), .int p0, .int p1] eI := by
  refine TH.ofW (own := RX0) rfl pnN_RX0 (Nat.le_of_ble_eq_true rfl) ?_
  intro p e s m below meth c C ht hk hE ls hl
  have hx := C.1
  have hb := C.2.1
  have hown := C.2.2.2.1
  have hw := C.2.2.2.2
  have hl : lv_has ls 3 [(0, .ref (a 0)), (1, .int p0), (2, .int p1)] := hl
  refine lv_iload_n hx hb dX0_minusMonths_0 rfl (lv_at hl 1 rfl) ?_
  exact thS (as := [.int p0]) (rest := []) C (t_X0_checkMoment l hl9 G p0 (fun q => hbad q)) F_X0_checkMoment rfl bw387 bw388 hE ht hk hl.1 dX0_minusMonths_1 ⟨Nat.le_of_ble_eq_true rfl, Nat.le_of_ble_eq_true rfl⟩ rfl (Nat.le_of_ble_eq_true rfl)

set_option maxRecDepth 100000 in
set_option maxHeartbeats 4000000 in
theorem tI_X0_plusWeeks (l : Launch) (hl9 : l.stackTraces = false) (G : GT) (a : Nat → Nat) (p0 : Int32) (p1 : Int32) (hbad : ¬ (vp_in p0 6)) : TH l G yX0_plusWeeks cX0_plusWeeks 3 (some .int) 8 [.ref (a 0), .int p0, .int p1] eI := by
  refine TH.ofW (own := RX0) rfl pnN_RX0 (Nat.le_of_ble_eq_true rfl) ?_
  intro p e s m below meth c C ht hk hE ls hl
  have hx := C.1
  have hb := C.2.1
  have hown := C.2.2.2.1
  have hw := C.2.2.2.2
  have hl : lv_has ls 3 [(0, .ref (a 0)), (1, .int p0), (2, .int p1)] := hl
  refine lv_iload_n hx hb dX0_plusWeeks_0 rfl (lv_at hl 1 rfl) ?_
  exact thS (as := [.int p0]) (rest := []) C (t_X0_checkMoment l hl9 G p0 (fun q => hbad q)) F_X0_checkMoment rfl bw387 bw388 hE ht hk hl.1 dX0_plusWeeks_1 ⟨Nat.le_of_ble_eq_true rfl, Nat.le_of_ble_eq_true rfl⟩ rfl (Nat.le_of_ble_eq_true rfl)

set_option maxRecDepth 100000 in
set_option maxHeartbeats 4000000 in
theorem tI_X0_minusWeeks (l : Launch) (hl9 : l.stackTraces = false) (G : GT) (a : Nat → Nat) (p0 : Int32) (p1 : Int32) (hbad : ¬ (vp_in p0 6)) : TH l G yX0_minusWeeks cX0_minusWeeks 3 (some .int) 8 [.ref (a 0), .int p0, .int p1] eI := by
  refine TH.ofW (own := RX0) rfl pnN_RX0 (Nat.le_of_ble_eq_true rfl) ?_
  intro p e s m below meth c C ht hk hE ls hl
  have hx := C.1
  have hb := C.2.1
  have hown := C.2.2.2.1
  have hw := C.2.2.2.2
  have hl : lv_has ls 3 [(0, .ref (a 0)), (1, .int p0), (2, .int p1)] := hl
  refine lv_iload_n hx hb dX0_minusWeeks_0 rfl (lv_at hl 1 rfl) ?_
  exact thS (as := [.int p0]) (rest := []) C (t_X0_checkMoment l hl9 G p0 (fun q => hbad q)) F_X0_checkMoment rfl bw387 bw388 hE ht hk hl.1 dX0_minusWeeks_1 ⟨Nat.le_of_ble_eq_true rfl, Nat.le_of_ble_eq_true rfl⟩ rfl (Nat.le_of_ble_eq_true rfl)

set_option maxRecDepth 100000 in
set_option maxHeartbeats 4000000 in
theorem tI_X0_plusDays (l : Launch) (hl9 : l.stackTraces = false) (G : GT) (a : Nat → Nat) (p0 : Int32) (p1 : Int32) (hbad : ¬ (vp_in p0 6)) : TH l G yX0_plusDays cX0_plusDays 3 (some .int) 8 [.ref (a 0), .int p0, .int p1] eI := by
  refine TH.ofW (own := RX0) rfl pnN_RX0 (Nat.le_of_ble_eq_true rfl) ?_
  intro p e s m below meth c C ht hk hE ls hl
  have hx := C.1
  have hb := C.2.1
  have hown := C.2.2.2.1
  have hw := C.2.2.2.2
  have hl : lv_has ls 3 [(0, .ref (a 0)), (1, .int p0), (2, .int p1)] := hl
  refine lv_iload_n hx hb dX0_plusDays_0 rfl (lv_at hl 1 rfl) ?_
  exact thS (as := [.int p0]) (rest := []) C (t_X0_checkMoment l hl9 G p0 (fun q => hbad q)) F_X0_checkMoment rfl bw387 bw388 hE ht hk hl.1 dX0_plusDays_1 ⟨Nat.le_of_ble_eq_true rfl, Nat.le_of_ble_eq_true rfl⟩ rfl (Nat.le_of_ble_eq_true rfl)

set_option maxRecDepth 100000 in
set_option maxHeartbeats 4000000 in
theorem tI_X0_minusDays (l : Launch) (hl9 : l.stackTraces = false) (G : GT) (a : Nat → Nat) (p0 : Int32) (p1 : Int32) (hbad : ¬ (vp_in p0 6)) : TH l G yX0_minusDays cX0_minusDays 3 (some .int) 8 [.ref (a 0), .int p0, .int p1] eI := by
  refine TH.ofW (own := RX0) rfl pnN_RX0 (Nat.le_of_ble_eq_true rfl) ?_
  intro p e s m below meth c C ht hk hE ls hl
  have hx := C.1
  have hb := C.2.1
  have hown := C.2.2.2.1
  have hw := C.2.2.2.2
  have hl : lv_has ls 3 [(0, .ref (a 0)), (1, .int p0), (2, .int p1)] := hl
  refine lv_iload_n hx hb dX0_minusDays_0 rfl (lv_at hl 1 rfl) ?_
  exact thS (as := [.int p0]) (rest := []) C (t_X0_checkMoment l hl9 G p0 (fun q => hbad q)) F_X0_checkMoment rfl bw387 bw388 hE ht hk hl.1 dX0_minusDays_1 ⟨Nat.le_of_ble_eq_true rfl, Nat.le_of_ble_eq_true rfl⟩ rfl (Nat.le_of_ble_eq_true rfl)

set_option maxRecDepth 100000 in
set_option maxHeartbeats 4000000 in
theorem tI_X0_plusHours (l : Launch) (hl9 : l.stackTraces = false) (G : GT) (a : Nat → Nat) (p0 : Int32) (p1 : Int32) (hbad : ¬ (vp_in p0 6)) : TH l G yX0_plusHours cX0_plusHours 3 (some .int) 8 [.ref (a 0), .int p0, .int p1] eI := by
  refine TH.ofW (own := RX0) rfl pnN_RX0 (Nat.le_of_ble_eq_true rfl) ?_
  intro p e s m below meth c C ht hk hE ls hl
  have hx := C.1
  have hb := C.2.1
  have hown := C.2.2.2.1
  have hw := C.2.2.2.2
  have hl : lv_has ls 3 [(0, .ref (a 0)), (1, .int p0), (2, .int p1)] := hl
  refine lv_iload_n hx hb dX0_plusHours_0 rfl (lv_at hl 1 rfl) ?_
  exact thS (as := [.int p0]) (rest := []) C (t_X0_checkMoment l hl9 G p0 (fun q => hbad q)) F_X0_checkMoment rfl bw387 bw388 hE ht hk hl.1 dX0_plusHours_1 ⟨Nat.le_of_ble_eq_true rfl, Nat.le_of_ble_eq_true rfl⟩ rfl (Nat.le_of_ble_eq_true rfl)

set_option maxRecDepth 100000 in
set_option maxHeartbeats 4000000 in
theorem tI_X0_minusHours (l : Launch) (hl9 : l.stackTraces = false) (G : GT) (a : Nat → Nat) (p0 : Int32) (p1 : Int32) (hbad : ¬ (vp_in p0 6)) : TH l G yX0_minusHours cX0_minusHours 3 (some .int) 8 [.ref (a 0), .int p0, .int p1] eI := by
  refine TH.ofW (own := RX0) rfl pnN_RX0 (Nat.le_of_ble_eq_true rfl) ?_
  intro p e s m below meth c C ht hk hE ls hl
  have hx := C.1
  have hb := C.2.1
  have hown := C.2.2.2.1
  have hw := C.2.2.2.2
  have hl : lv_has ls 3 [(0, .ref (a 0)), (1, .int p0), (2, .int p1)] := hl
  refine lv_iload_n hx hb dX0_minusHours_0 rfl (lv_at hl 1 rfl) ?_
  exact thS (as := [.int p0]) (rest := []) C (t_X0_checkMoment l hl9 G p0 (fun q => hbad q)) F_X0_checkMoment rfl bw387 bw388 hE ht hk hl.1 dX0_minusHours_1 ⟨Nat.le_of_ble_eq_true rfl, Nat.le_of_ble_eq_true rfl⟩ rfl (Nat.le_of_ble_eq_true rfl)

set_option maxRecDepth 100000 in
set_option maxHeartbeats 4000000 in
theorem tI_X0_plusMinutes (l : Launch) (hl9 : l.stackTraces = false) (G : GT) (a : Nat → Nat) (p0 : Int32) (p1 : Int32) (hbad : ¬ (vp_in p0 6)) : TH l G yX0_plusMinutes cX0_plusMinutes 3 (some .int) 8 [.ref (a 0), .int p0, .int p1] eI := by
  refine TH.ofW (own := RX0) rfl pnN_RX0 (Nat.le_of_ble_eq_true rfl) ?_
  intro p e s m below meth c C ht hk hE ls hl
  have hx := C.1
  have hb := C.2.1
  have hown := C.2.2.2.1
  have hw := C.2.2.2.2
  have hl : lv_has ls 3 [(0, .ref (a 0)), (1, .int p0), (2, .int p1)] := hl
  refine lv_iload_n hx hb dX0_plusMinutes_0 rfl (lv_at hl 1 rfl) ?_
  exact thS (as := [.int p0]) (rest := []) C (t_X0_checkMoment l hl9 G p0 (fun q => hbad q)) F_X0_checkMoment rfl bw387 bw388 hE ht hk hl.1 dX0_plusMinutes_1 ⟨Nat.le_of_ble_eq_true rfl, Nat.le_of_ble_eq_true rfl⟩ rfl (Nat.le_of_ble_eq_true rfl)

set_option maxRecDepth 100000 in
set_option maxHeartbeats 4000000 in
theorem tI_X0_minusMinutes (l : Launch) (hl9 : l.stackTraces = false) (G : GT) (a : Nat → Nat) (p0 : Int32) (p1 : Int32) (hbad : ¬ (vp_in p0 6)) : TH l G yX0_minusMinutes cX0_minusMinutes 3 (some .int) 8 [.ref (a 0), .int p0, .int p1] eI := by
  refine TH.ofW (own := RX0) rfl pnN_RX0 (Nat.le_of_ble_eq_true rfl) ?_
  intro p e s m below meth c C ht hk hE ls hl
  have hx := C.1
  have hb := C.2.1
  have hown := C.2.2.2.1
  have hw := C.2.2.2.2
  have hl : lv_has ls 3 [(0, .ref (a 0)), (1, .int p0), (2, .int p1)] := hl
  refine lv_iload_n hx hb dX0_minusMinutes_0 rfl (lv_at hl 1 rfl) ?_
  exact thS (as := [.int p0]) (rest := []) C (t_X0_checkMoment l hl9 G p0 (fun q => hbad q)) F_X0_checkMoment rfl bw387 bw388 hE ht hk hl.1 dX0_minusMinutes_1 ⟨Nat.le_of_ble_eq_true rfl, Nat.le_of_ble_eq_true rfl⟩ rfl (Nat.le_of_ble_eq_true rfl)

set_option maxRecDepth 100000 in
set_option maxHeartbeats 4000000 in
theorem tI_X0_plusSeconds (l : Launch) (hl9 : l.stackTraces = false) (G : GT) (a : Nat → Nat) (p0 : Int32) (p1 : Int32) (hbad : ¬ (vp_in p0 6)) : TH l G yX0_plusSeconds cX0_plusSeconds 3 (some .int) 8 [.ref (a 0), .int p0, .int p1] eI := by
  refine TH.ofW (own := RX0) rfl pnN_RX0 (Nat.le_of_ble_eq_true rfl) ?_
  intro p e s m below meth c C ht hk hE ls hl
  have hx := C.1
  have hb := C.2.1
  have hown := C.2.2.2.1
  have hw := C.2.2.2.2
  have hl : lv_has ls 3 [(0, .ref (a 0)), (1, .int p0), (2, .int p1)] := hl
  refine lv_iload_n hx hb dX0_plusSeconds_0 rfl (lv_at hl 1 rfl) ?_
  exact thS (as := [.int p0]) (rest := []) C (t_X0_checkMoment l hl9 G p0 (fun q => hbad q)) F_X0_checkMoment rfl bw387 bw388 hE ht hk hl.1 dX0_plusSeconds_1 ⟨Nat.le_of_ble_eq_true rfl, Nat.le_of_ble_eq_true rfl⟩ rfl (Nat.le_of_ble_eq_true rfl)

set_option maxRecDepth 100000 in
set_option maxHeartbeats 4000000 in
theorem tI_X0_minusSeconds (l : Launch) (hl9 : l.stackTraces = false) (G : GT) (a : Nat → Nat) (p0 : Int32) (p1 : Int32) (hbad : ¬ (vp_in p0 6)) : TH l G yX0_minusSeconds cX0_minusSeconds 3 (some .int) 8 [.ref (a 0), .int p0, .int p1] eI := by
  refine TH.ofW (own := RX0) rfl pnN_RX0 (Nat.le_of_ble_eq_true rfl) ?_
  intro p e s m below meth c C ht hk hE ls hl
  have hx := C.1
  have hb := C.2.1
  have hown := C.2.2.2.1
  have hw := C.2.2.2.2
  have hl : lv_has ls 3 [(0, .ref (a 0)), (1, .int p0), (2, .int p1)] := hl
  refine lv_iload_n hx hb dX0_minusSeconds_0 rfl (lv_at hl 1 rfl) ?_
  exact thS (as := [.int p0]) (rest := []) C (t_X0_checkMoment l hl9 G p0 (fun q => hbad q)) F_X0_checkMoment rfl bw387 bw388 hE ht hk hl.1 dX0_minusSeconds_1 ⟨Nat.le_of_ble_eq_true rfl, Nat.le_of_ble_eq_true rfl⟩ rfl (Nat.le_of_ble_eq_true rfl)

set_option maxRecDepth 100000 in
set_option maxHeartbeats 4000000 in
theorem tI_X0_plusNanos (l : Launch) (hl9 : l.stackTraces = false) (G : GT) (a : Nat → Nat) (p0 : Int32) (p1 : Int32) (p2 : Int32) (hbad : ¬ (vp_in p0 6)) : TH l G yX0_plusNanos cX0_plusNanos 4 (some .int) 8 [.ref (a 0), .int p0, .int p1, .int p2] eI := by
  refine TH.ofW (own := RX0) rfl pnN_RX0 (Nat.le_of_ble_eq_true rfl) ?_
  intro p e s m below meth c C ht hk hE ls hl
  have hx := C.1
  have hb := C.2.1
  have hown := C.2.2.2.1
  have hw := C.2.2.2.2
  have hl : lv_has ls 4 [(0, .ref (a 0)), (1, .int p0), (2, .int p1), (3, .int p2)] := hl
  refine lv_iload_n hx hb dX0_plusNanos_0 rfl (lv_at hl 1 rfl) ?_
  exact thS (as := [.int p0]) (rest := []) C (t_X0_checkMoment l hl9 G p0 (fun q => hbad q)) F_X0_checkMoment rfl bw387 bw388 hE ht hk hl.1 dX0_plusNanos_1 ⟨Nat.le_of_ble_eq_true rfl, Nat.le_of_ble_eq_true rfl⟩ rfl (Nat.le_of_ble_eq_true rfl)

set_option maxRecDepth 100000 in
set_option maxHeartbeats 4000000 in
theorem tI_X0_minusNanos (l : Launch) (hl9 : l.stackTraces = false) (G : GT) (a : Nat → Nat) (p0 : Int32) (p1 : Int32) (p2 : Int32) (hbad : ¬ (vp_in p0 6)) : TH l G yX0_minusNanos cX0_minusNanos 4 (some .int) 8 [.ref (a 0), .int p0, .int p1, .int p2] eI := by
  refine TH.ofW (own := RX0) rfl pnN_RX0 (Nat.le_of_ble_eq_true rfl) ?_
  intro p e s m below meth c C ht hk hE ls hl
  have hx := C.1
  have hb := C.2.1
  have hown := C.2.2.2.1
  have hw := C.2.2.2.2
  have hl : lv_has ls 4 [(0, .ref (a 0)), (1, .int p0), (2, .int p1), (3, .int p2)] := hl
  refine lv_iload_n hx hb dX0_minusNanos_0 rfl (lv_at hl 1 rfl) ?_
  exact thS (as := [.int p0]) (rest := []) C (t_X0_checkMoment l hl9 G p0 (fun q => hbad q)) F_X0_checkMoment rfl bw387 bw388 hE ht hk hl.1 dX0_minusNanos_1 ⟨Nat.le_of_ble_eq_true rfl, Nat.le_of_ble_eq_true rfl⟩ rfl (Nat.le_of_ble_eq_true rfl)

set_option maxRecDepth 100000 in
set_option maxHeartbeats 4000000 in
theorem tI_X0_plusUnits (l : Launch) (hl9 : l.stackTraces = false) (G : GT) (a : Nat → Nat) (p0 : Int32) (p1 : Int32) (p2 : Int32) (hbad : ¬ (vp_in p0 6)) : TH l G yX0_plusUnits cX0_plusUnits 4 (some .int) 8 [.ref (a 0), .int p0, .int p1, .int p2] eI := by
  refine TH.ofW (own := RX0) rfl pnN_RX0 (Nat.le_of_ble_eq_true rfl) ?_
  intro p e s m below meth c C ht hk hE ls hl
  have hx := C.1
  have hb := C.2.1
  have hown := C.2.2.2.1
  have hw := C.2.2.2.2
  have hl : lv_has ls 4 [(0, .ref (a 0)), (1, .int p0), (2, .int p1), (3, .int p2)] := hl
  refine lv_iload_n hx hb dX0_plusUnits_0 rfl (lv_at hl 1 rfl) ?_
  exact thS (as := [.int p0]) (rest := []) C (t_X0_checkMoment l hl9 G p0 (fun q => hbad q)) F_X0_checkMoment rfl bw387 bw388 hE ht hk hl.1 dX0_plusUnits_1 ⟨Nat.le_of_ble_eq_true rfl, Nat.le_of_ble_eq_true rfl⟩ rfl (Nat.le_of_ble_eq_true rfl)

set_option maxRecDepth 100000 in
set_option maxHeartbeats 4000000 in
theorem tA_X0_plusUnits (l : Launch) (hl9 : l.stackTraces = false) (G : GT) (a : Nat → Nat) (p0 : Int32) (p1 : Int32) (p2 : Int32) (h0 : vp_in p0 6) (hbad : ¬ ((¬ p1 < (-100000 : Int32) ∧ p1 ≤ (100000 : Int32)) ∧ (¬ p2 < (0 : Int32) ∧ p2 ≤ (13 : Int32)))) : TH l G yX0_plusUnits cX0_plusUnits 4 (some .int) 8 [.ref (a 0), .int p0, .int p1, .int p2] eA := by
  refine TH.ofW (own := RX0) rfl pnN_RX0 (Nat.le_of_ble_eq_true rfl) ?_
  intro p e s m below meth c C ht hk hE ls hl
  have hx := C.1
  have hb := C.2.1
  have hown := C.2.2.2.1
  have hw := C.2.2.2.2
  have hl : lv_has ls 4 [(0, .ref (a 0)), (1, .int p0), (2, .int p1), (3, .int p2)] := hl
  refine lv_iload_n hx hb dX0_plusUnits_0 rfl (lv_at hl 1 rfl) ?_
  refine rcSv (as := [.int p0]) (rest := []) C (c_X0_checkMoment l G p0 h0) F_X0_checkMoment rfl bw387 bw388 hE vpn hl.1 dX0_plusUnits_1 ⟨Nat.le_of_ble_eq_true rfl, Nat.le_of_ble_eq_true rfl⟩ rfl (Nat.le_of_ble_eq_true rfl) ⟨Nat.zero_le _, Nat.zero_le _⟩ ?_
  refine lv_iload_n hx hb dX0_plusUnits_4 rfl (lv_at hl 2 rfl) ?_
  refine lv_ldc (v := (-100000 : Int32)) hx hb hown (hw _ bw675) dX0_plusUnits_5 ?_
  refine lv_ldc (v := (100000 : Int32)) hx hb hown (hw _ bw676) dX0_plusUnits_7 ?_
  by_cases k1 : (¬ p1 < (-100000 : Int32) ∧ p1 ≤ (100000 : Int32))
  · refine rcSv (as := [.int p1, .int (-100000 : Int32), .int (100000 : Int32)]) (rest := []) C (c_X0_checkRange l G p1 (-100000 : Int32) (100000 : Int32) k1.1 k1.2) F_X0_checkRange rfl bw308 bw309 hE vpn hl.1 dX0_plusUnits_9 ⟨Nat.le_of_ble_eq_true rfl, Nat.le_of_ble_eq_true rfl⟩ rfl (Nat.le_of_ble_eq_true rfl) ⟨Nat.zero_le _, Nat.zero_le _⟩ ?_
    refine lv_iload_n hx hb dX0_plusUnits_12 rfl (lv_at hl 3 rfl) ?_
    refine lv_iconst (v := (0 : Int32)) hx hb dX0_plusUnits_13 qi_0 ?_
    refine lv_bipush (v := (13 : Int32)) hx hb dX0_plusUnits_14 qb_13 ?_
    exact thS (as := [.int p2, .int (0 : Int32), .int (13 : Int32)]) (rest := []) C (t_X0_checkRange l hl9 G p2 (0 : Int32) (13 : Int32) (fun q => hbad ⟨k1, q⟩)) F_X0_checkRange rfl bw308 bw309 hE ht hk hl.1 dX0_plusUnits_16 ⟨Nat.le_of_ble_eq_true rfl, Nat.le_of_ble_eq_true rfl⟩ rfl (Nat.le_of_ble_eq_true rfl)
  · exact thS (as := [.int p1, .int (-100000 : Int32), .int (100000 : Int32)]) (rest := []) C (t_X0_checkRange l hl9 G p1 (-100000 : Int32) (100000 : Int32) k1) F_X0_checkRange rfl bw308 bw309 hE ht hk hl.1 dX0_plusUnits_9 ⟨Nat.le_of_ble_eq_true rfl, Nat.le_of_ble_eq_true rfl⟩ rfl (Nat.le_of_ble_eq_true rfl)

set_option maxRecDepth 100000 in
set_option maxHeartbeats 4000000 in
theorem tI_X0_year (l : Launch) (hl9 : l.stackTraces = false) (G : GT) (a : Nat → Nat) (p0 : Int32) (hbad : ¬ (vp_in p0 6)) : TH l G yX0_year cX0_year 2 (some .int) 8 [.ref (a 0), .int p0] eI := by
  refine TH.ofW (own := RX0) rfl pnN_RX0 (Nat.le_of_ble_eq_true rfl) ?_
  intro p e s m below meth c C ht hk hE ls hl
  have hx := C.1
  have hb := C.2.1
  have hown := C.2.2.2.1
  have hw := C.2.2.2.2
  have hl : lv_has ls 2 [(0, .ref (a 0)), (1, .int p0)] := hl
  refine lv_iload_n hx hb dX0_year_0 rfl (lv_at hl 1 rfl) ?_
  exact thS (as := [.int p0]) (rest := []) C (t_X0_checkMoment l hl9 G p0 (fun q => hbad q)) F_X0_checkMoment rfl bw387 bw388 hE ht hk hl.1 dX0_year_1 ⟨Nat.le_of_ble_eq_true rfl, Nat.le_of_ble_eq_true rfl⟩ rfl (Nat.le_of_ble_eq_true rfl)

set_option maxRecDepth 100000 in
set_option maxHeartbeats 4000000 in
theorem tI_X0_month (l : Launch) (hl9 : l.stackTraces = false) (G : GT) (a : Nat → Nat) (p0 : Int32) (hbad : ¬ (vp_in p0 6)) : TH l G yX0_month cX0_month 2 (some .int) 8 [.ref (a 0), .int p0] eI := by
  refine TH.ofW (own := RX0) rfl pnN_RX0 (Nat.le_of_ble_eq_true rfl) ?_
  intro p e s m below meth c C ht hk hE ls hl
  have hx := C.1
  have hb := C.2.1
  have hown := C.2.2.2.1
  have hw := C.2.2.2.2
  have hl : lv_has ls 2 [(0, .ref (a 0)), (1, .int p0)] := hl
  refine lv_iload_n hx hb dX0_month_0 rfl (lv_at hl 1 rfl) ?_
  exact thS (as := [.int p0]) (rest := []) C (t_X0_checkMoment l hl9 G p0 (fun q => hbad q)) F_X0_checkMoment rfl bw387 bw388 hE ht hk hl.1 dX0_month_1 ⟨Nat.le_of_ble_eq_true rfl, Nat.le_of_ble_eq_true rfl⟩ rfl (Nat.le_of_ble_eq_true rfl)

set_option maxRecDepth 100000 in
set_option maxHeartbeats 4000000 in
theorem tI_X0_dayOfMonth (l : Launch) (hl9 : l.stackTraces = false) (G : GT) (a : Nat → Nat) (p0 : Int32) (hbad : ¬ (vp_in p0 6)) : TH l G yX0_dayOfMonth cX0_dayOfMonth 2 (some .int) 8 [.ref (a 0), .int p0] eI := by
  refine TH.ofW (own := RX0) rfl pnN_RX0 (Nat.le_of_ble_eq_true rfl) ?_
  intro p e s m below meth c C ht hk hE ls hl
  have hx := C.1
  have hb := C.2.1
  have hown := C.2.2.2.1
  have hw := C.2.2.2.2
  have hl : lv_has ls 2 [(0, .ref (a 0)), (1, .int p0)] := hl
  refine lv_iload_n hx hb dX0_dayOfMonth_0 rfl (lv_at hl 1 rfl) ?_
  exact thS (as := [.int p0]) (rest := []) C (t_X0_checkMoment l hl9 G p0 (fun q => hbad q)) F_X0_checkMoment rfl bw387 bw388 hE ht hk hl.1 dX0_dayOfMonth_1 ⟨Nat.le_of_ble_eq_true rfl, Nat.le_of_ble_eq_true rfl⟩ rfl (Nat.le_of_ble_eq_true rfl)

set_option maxRecDepth 100000 in
set_option maxHeartbeats 4000000 in
theorem tI_X0_dayOfYear (l : Launch) (hl9 : l.stackTraces = false) (G : GT) (a : Nat → Nat) (p0 : Int32) (hbad : ¬ (vp_in p0 6)) : TH l G yX0_dayOfYear cX0_dayOfYear 2 (some .int) 8 [.ref (a 0), .int p0] eI := by
  refine TH.ofW (own := RX0) rfl pnN_RX0 (Nat.le_of_ble_eq_true rfl) ?_
  intro p e s m below meth c C ht hk hE ls hl
  have hx := C.1
  have hb := C.2.1
  have hown := C.2.2.2.1
  have hw := C.2.2.2.2
  have hl : lv_has ls 2 [(0, .ref (a 0)), (1, .int p0)] := hl
  refine lv_iload_n hx hb dX0_dayOfYear_0 rfl (lv_at hl 1 rfl) ?_
  exact thS (as := [.int p0]) (rest := []) C (t_X0_checkMoment l hl9 G p0 (fun q => hbad q)) F_X0_checkMoment rfl bw387 bw388 hE ht hk hl.1 dX0_dayOfYear_1 ⟨Nat.le_of_ble_eq_true rfl, Nat.le_of_ble_eq_true rfl⟩ rfl (Nat.le_of_ble_eq_true rfl)

set_option maxRecDepth 100000 in
set_option maxHeartbeats 4000000 in
theorem tI_X0_dayOfWeek (l : Launch) (hl9 : l.stackTraces = false) (G : GT) (a : Nat → Nat) (p0 : Int32) (hbad : ¬ (vp_in p0 6)) : TH l G yX0_dayOfWeek cX0_dayOfWeek 2 (some .int) 8 [.ref (a 0), .int p0] eI := by
  refine TH.ofW (own := RX0) rfl pnN_RX0 (Nat.le_of_ble_eq_true rfl) ?_
  intro p e s m below meth c C ht hk hE ls hl
  have hx := C.1
  have hb := C.2.1
  have hown := C.2.2.2.1
  have hw := C.2.2.2.2
  have hl : lv_has ls 2 [(0, .ref (a 0)), (1, .int p0)] := hl
  refine lv_iload_n hx hb dX0_dayOfWeek_0 rfl (lv_at hl 1 rfl) ?_
  exact thS (as := [.int p0]) (rest := []) C (t_X0_checkMoment l hl9 G p0 (fun q => hbad q)) F_X0_checkMoment rfl bw387 bw388 hE ht hk hl.1 dX0_dayOfWeek_1 ⟨Nat.le_of_ble_eq_true rfl, Nat.le_of_ble_eq_true rfl⟩ rfl (Nat.le_of_ble_eq_true rfl)

set_option maxRecDepth 100000 in
set_option maxHeartbeats 4000000 in
theorem tI_X0_hour (l : Launch) (hl9 : l.stackTraces = false) (G : GT) (a : Nat → Nat) (p0 : Int32) (hbad : ¬ (vp_in p0 6)) : TH l G yX0_hour cX0_hour 2 (some .int) 8 [.ref (a 0), .int p0] eI := by
  refine TH.ofW (own := RX0) rfl pnN_RX0 (Nat.le_of_ble_eq_true rfl) ?_
  intro p e s m below meth c C ht hk hE ls hl
  have hx := C.1
  have hb := C.2.1
  have hown := C.2.2.2.1
  have hw := C.2.2.2.2
  have hl : lv_has ls 2 [(0, .ref (a 0)), (1, .int p0)] := hl
  refine lv_iload_n hx hb dX0_hour_0 rfl (lv_at hl 1 rfl) ?_
  exact thS (as := [.int p0]) (rest := []) C (t_X0_checkMoment l hl9 G p0 (fun q => hbad q)) F_X0_checkMoment rfl bw387 bw388 hE ht hk hl.1 dX0_hour_1 ⟨Nat.le_of_ble_eq_true rfl, Nat.le_of_ble_eq_true rfl⟩ rfl (Nat.le_of_ble_eq_true rfl)

set_option maxRecDepth 100000 in
set_option maxHeartbeats 4000000 in
theorem tI_X0_minute (l : Launch) (hl9 : l.stackTraces = false) (G : GT) (a : Nat → Nat) (p0 : Int32) (hbad : ¬ (vp_in p0 6)) : TH l G yX0_minute cX0_minute 2 (some .int) 8 [.ref (a 0), .int p0] eI := by
  refine TH.ofW (own := RX0) rfl pnN_RX0 (Nat.le_of_ble_eq_true rfl) ?_
  intro p e s m below meth c C ht hk hE ls hl
  have hx := C.1
  have hb := C.2.1
  have hown := C.2.2.2.1
  have hw := C.2.2.2.2
  have hl : lv_has ls 2 [(0, .ref (a 0)), (1, .int p0)] := hl
  refine lv_iload_n hx hb dX0_minute_0 rfl (lv_at hl 1 rfl) ?_
  exact thS (as := [.int p0]) (rest := []) C (t_X0_checkMoment l hl9 G p0 (fun q => hbad q)) F_X0_checkMoment rfl bw387 bw388 hE ht hk hl.1 dX0_minute_1 ⟨Nat.le_of_ble_eq_true rfl, Nat.le_of_ble_eq_true rfl⟩ rfl (Nat.le_of_ble_eq_true rfl)

set_option maxRecDepth 100000 in
set_option maxHeartbeats 4000000 in
theorem tI_X0_second (l : Launch) (hl9 : l.stackTraces = false) (G : GT) (a : Nat → Nat) (p0 : Int32) (hbad : ¬ (vp_in p0 6)) : TH l G yX0_second cX0_second 2 (some .int) 8 [.ref (a 0), .int p0] eI := by
  refine TH.ofW (own := RX0) rfl pnN_RX0 (Nat.le_of_ble_eq_true rfl) ?_
  intro p e s m below meth c C ht hk hE ls hl
  have hx := C.1
  have hb := C.2.1
  have hown := C.2.2.2.1
  have hw := C.2.2.2.2
  have hl : lv_has ls 2 [(0, .ref (a 0)), (1, .int p0)] := hl
  refine lv_iload_n hx hb dX0_second_0 rfl (lv_at hl 1 rfl) ?_
  exact thS (as := [.int p0]) (rest := []) C (t_X0_checkMoment l hl9 G p0 (fun q => hbad q)) F_X0_checkMoment rfl bw387 bw388 hE ht hk hl.1 dX0_second_1 ⟨Nat.le_of_ble_eq_true rfl, Nat.le_of_ble_eq_true rfl⟩ rfl (Nat.le_of_ble_eq_true rfl)

set_option maxRecDepth 100000 in
set_option maxHeartbeats 4000000 in
theorem tI_X0_nano (l : Launch) (hl9 : l.stackTraces = false) (G : GT) (a : Nat → Nat) (p0 : Int32) (hbad : ¬ (vp_in p0 6)) : TH l G yX0_nano cX0_nano 2 (some .int) 8 [.ref (a 0), .int p0] eI := by
  refine TH.ofW (own := RX0) rfl pnN_RX0 (Nat.le_of_ble_eq_true rfl) ?_
  intro p e s m below meth c C ht hk hE ls hl
  have hx := C.1
  have hb := C.2.1
  have hown := C.2.2.2.1
  have hw := C.2.2.2.2
  have hl : lv_has ls 2 [(0, .ref (a 0)), (1, .int p0)] := hl
  refine lv_iload_n hx hb dX0_nano_0 rfl (lv_at hl 1 rfl) ?_
  exact thS (as := [.int p0]) (rest := []) C (t_X0_checkMoment l hl9 G p0 (fun q => hbad q)) F_X0_checkMoment rfl bw387 bw388 hE ht hk hl.1 dX0_nano_1 ⟨Nat.le_of_ble_eq_true rfl, Nat.le_of_ble_eq_true rfl⟩ rfl (Nat.le_of_ble_eq_true rfl)

set_option maxRecDepth 100000 in
set_option maxHeartbeats 4000000 in
theorem tI_X0_day (l : Launch) (hl9 : l.stackTraces = false) (G : GT) (a : Nat → Nat) (p0 : Int32) (hbad : ¬ (vp_in p0 6)) : TH l G yX0_day cX0_day 2 (some .int) 8 [.ref (a 0), .int p0] eI := by
  refine TH.ofW (own := RX0) rfl pnN_RX0 (Nat.le_of_ble_eq_true rfl) ?_
  intro p e s m below meth c C ht hk hE ls hl
  have hx := C.1
  have hb := C.2.1
  have hown := C.2.2.2.1
  have hw := C.2.2.2.2
  have hl : lv_has ls 2 [(0, .ref (a 0)), (1, .int p0)] := hl
  refine lv_iload_n hx hb dX0_day_0 rfl (lv_at hl 1 rfl) ?_
  exact thS (as := [.int p0]) (rest := []) C (t_X0_checkMoment l hl9 G p0 (fun q => hbad q)) F_X0_checkMoment rfl bw387 bw388 hE ht hk hl.1 dX0_day_1 ⟨Nat.le_of_ble_eq_true rfl, Nat.le_of_ble_eq_true rfl⟩ rfl (Nat.le_of_ble_eq_true rfl)

set_option maxRecDepth 100000 in
set_option maxHeartbeats 4000000 in
theorem tI_X0_secondOfDay (l : Launch) (hl9 : l.stackTraces = false) (G : GT) (a : Nat → Nat) (p0 : Int32) (hbad : ¬ (vp_in p0 6)) : TH l G yX0_secondOfDay cX0_secondOfDay 2 (some .int) 8 [.ref (a 0), .int p0] eI := by
  refine TH.ofW (own := RX0) rfl pnN_RX0 (Nat.le_of_ble_eq_true rfl) ?_
  intro p e s m below meth c C ht hk hE ls hl
  have hx := C.1
  have hb := C.2.1
  have hown := C.2.2.2.1
  have hw := C.2.2.2.2
  have hl : lv_has ls 2 [(0, .ref (a 0)), (1, .int p0)] := hl
  refine lv_iload_n hx hb dX0_secondOfDay_0 rfl (lv_at hl 1 rfl) ?_
  exact thS (as := [.int p0]) (rest := []) C (t_X0_checkMoment l hl9 G p0 (fun q => hbad q)) F_X0_checkMoment rfl bw387 bw388 hE ht hk hl.1 dX0_secondOfDay_1 ⟨Nat.le_of_ble_eq_true rfl, Nat.le_of_ble_eq_true rfl⟩ rfl (Nat.le_of_ble_eq_true rfl)

set_option maxRecDepth 100000 in
set_option maxHeartbeats 4000000 in
theorem tI_X0_lengthOfMonth (l : Launch) (hl9 : l.stackTraces = false) (G : GT) (a : Nat → Nat) (p0 : Int32) (hbad : ¬ (vp_in p0 6)) : TH l G yX0_lengthOfMonth cX0_lengthOfMonth 2 (some .int) 8 [.ref (a 0), .int p0] eI := by
  refine TH.ofW (own := RX0) rfl pnN_RX0 (Nat.le_of_ble_eq_true rfl) ?_
  intro p e s m below meth c C ht hk hE ls hl
  have hx := C.1
  have hb := C.2.1
  have hown := C.2.2.2.1
  have hw := C.2.2.2.2
  have hl : lv_has ls 2 [(0, .ref (a 0)), (1, .int p0)] := hl
  refine lv_iload_n hx hb dX0_lengthOfMonth_0 rfl (lv_at hl 1 rfl) ?_
  exact thS (as := [.int p0]) (rest := []) C (t_X0_checkMoment l hl9 G p0 (fun q => hbad q)) F_X0_checkMoment rfl bw387 bw388 hE ht hk hl.1 dX0_lengthOfMonth_1 ⟨Nat.le_of_ble_eq_true rfl, Nat.le_of_ble_eq_true rfl⟩ rfl (Nat.le_of_ble_eq_true rfl)

set_option maxRecDepth 100000 in
set_option maxHeartbeats 4000000 in
theorem tI_X0_nanoOfDay (l : Launch) (hl9 : l.stackTraces = false) (G : GT) (a : Nat → Nat) (p0 : Int32) (hbad : ¬ (vp_in p0 6)) : TH l G yX0_nanoOfDay cX0_nanoOfDay 2 (some (.object "java/lang/String")) 8 [.ref (a 0), .int p0] eI := by
  refine TH.ofW (own := RX0) rfl pnN_RX0 (Nat.le_of_ble_eq_true rfl) ?_
  intro p e s m below meth c C ht hk hE ls hl
  have hx := C.1
  have hb := C.2.1
  have hown := C.2.2.2.1
  have hw := C.2.2.2.2
  have hl : lv_has ls 2 [(0, .ref (a 0)), (1, .int p0)] := hl
  refine lv_iload_n hx hb dX0_nanoOfDay_0 rfl (lv_at hl 1 rfl) ?_
  exact thS (as := [.int p0]) (rest := []) C (t_X0_checkMoment l hl9 G p0 (fun q => hbad q)) F_X0_checkMoment rfl bw387 bw388 hE ht hk hl.1 dX0_nanoOfDay_1 ⟨Nat.le_of_ble_eq_true rfl, Nat.le_of_ble_eq_true rfl⟩ rfl (Nat.le_of_ble_eq_true rfl)

set_option maxRecDepth 100000 in
set_option maxHeartbeats 4000000 in
theorem tI_X0_isLeap (l : Launch) (hl9 : l.stackTraces = false) (G : GT) (a : Nat → Nat) (p0 : Int32) (hbad : ¬ (vp_in p0 6)) : TH l G yX0_isLeap cX0_isLeap 2 (some .boolean) 8 [.ref (a 0), .int p0] eI := by
  refine TH.ofW (own := RX0) rfl pnN_RX0 (Nat.le_of_ble_eq_true rfl) ?_
  intro p e s m below meth c C ht hk hE ls hl
  have hx := C.1
  have hb := C.2.1
  have hown := C.2.2.2.1
  have hw := C.2.2.2.2
  have hl : lv_has ls 2 [(0, .ref (a 0)), (1, .int p0)] := hl
  refine lv_iload_n hx hb dX0_isLeap_0 rfl (lv_at hl 1 rfl) ?_
  exact thS (as := [.int p0]) (rest := []) C (t_X0_checkMoment l hl9 G p0 (fun q => hbad q)) F_X0_checkMoment rfl bw387 bw388 hE ht hk hl.1 dX0_isLeap_1 ⟨Nat.le_of_ble_eq_true rfl, Nat.le_of_ble_eq_true rfl⟩ rfl (Nat.le_of_ble_eq_true rfl)

set_option maxRecDepth 100000 in
set_option maxHeartbeats 4000000 in
theorem tI_X0_field (l : Launch) (hl9 : l.stackTraces = false) (G : GT) (a : Nat → Nat) (p0 : Int32) (p1 : Int32) (hbad : ¬ (vp_in p0 6)) : TH l G yX0_field cX0_field 3 (some (.object "java/lang/String")) 8 [.ref (a 0), .int p0, .int p1] eI := by
  refine TH.ofW (own := RX0) rfl pnN_RX0 (Nat.le_of_ble_eq_true rfl) ?_
  intro p e s m below meth c C ht hk hE ls hl
  have hx := C.1
  have hb := C.2.1
  have hown := C.2.2.2.1
  have hw := C.2.2.2.2
  have hl : lv_has ls 3 [(0, .ref (a 0)), (1, .int p0), (2, .int p1)] := hl
  refine lv_iload_n hx hb dX0_field_0 rfl (lv_at hl 1 rfl) ?_
  exact thS (as := [.int p0]) (rest := []) C (t_X0_checkMoment l hl9 G p0 (fun q => hbad q)) F_X0_checkMoment rfl bw387 bw388 hE ht hk hl.1 dX0_field_1 ⟨Nat.le_of_ble_eq_true rfl, Nat.le_of_ble_eq_true rfl⟩ rfl (Nat.le_of_ble_eq_true rfl)

set_option maxRecDepth 100000 in
set_option maxHeartbeats 4000000 in
theorem tA_X0_field (l : Launch) (hl9 : l.stackTraces = false) (G : GT) (a : Nat → Nat) (p0 : Int32) (p1 : Int32) (h0 : vp_in p0 6) (hbad : ¬ ((¬ p1 < (0 : Int32) ∧ p1 ≤ (27 : Int32)))) : TH l G yX0_field cX0_field 3 (some (.object "java/lang/String")) 8 [.ref (a 0), .int p0, .int p1] eA := by
  refine TH.ofW (own := RX0) rfl pnN_RX0 (Nat.le_of_ble_eq_true rfl) ?_
  intro p e s m below meth c C ht hk hE ls hl
  have hx := C.1
  have hb := C.2.1
  have hown := C.2.2.2.1
  have hw := C.2.2.2.2
  have hl : lv_has ls 3 [(0, .ref (a 0)), (1, .int p0), (2, .int p1)] := hl
  refine lv_iload_n hx hb dX0_field_0 rfl (lv_at hl 1 rfl) ?_
  refine rcSv (as := [.int p0]) (rest := []) C (c_X0_checkMoment l G p0 h0) F_X0_checkMoment rfl bw387 bw388 hE vpn hl.1 dX0_field_1 ⟨Nat.le_of_ble_eq_true rfl, Nat.le_of_ble_eq_true rfl⟩ rfl (Nat.le_of_ble_eq_true rfl) ⟨Nat.zero_le _, Nat.zero_le _⟩ ?_
  refine lv_iload_n hx hb dX0_field_4 rfl (lv_at hl 2 rfl) ?_
  refine lv_iconst (v := (0 : Int32)) hx hb dX0_field_5 qi_0 ?_
  refine lv_bipush (v := (27 : Int32)) hx hb dX0_field_6 qb_27 ?_
  exact thS (as := [.int p1, .int (0 : Int32), .int (27 : Int32)]) (rest := []) C (t_X0_checkRange l hl9 G p1 (0 : Int32) (27 : Int32) (fun q => hbad q)) F_X0_checkRange rfl bw308 bw309 hE ht hk hl.1 dX0_field_8 ⟨Nat.le_of_ble_eq_true rfl, Nat.le_of_ble_eq_true rfl⟩ rfl (Nat.le_of_ble_eq_true rfl)

set_option maxRecDepth 100000 in
set_option maxHeartbeats 4000000 in
theorem tI_X0_isSameAs (l : Launch) (hl9 : l.stackTraces = false) (G : GT) (a : Nat → Nat) (p0 : Int32) (p1 : Int32) (hbad : ¬ (vp_in p0 6)) : TH l G yX0_isSameAs cX0_isSameAs 3 (some .boolean) 8 [.ref (a 0), .int p0, .int p1] eI := by
  refine TH.ofW (own := RX0) rfl pnN_RX0 (Nat.le_of_ble_eq_true rfl) ?_
  intro p e s m below meth c C ht hk hE ls hl
  have hx := C.1
  have hb := C.2.1
  have hown := C.2.2.2.1
  have hw := C.2.2.2.2
  have hl : lv_has ls 3 [(0, .ref (a 0)), (1, .int p0), (2, .int p1)] := hl
  refine lv_iload_n hx hb dX0_isSameAs_0 rfl (lv_at hl 1 rfl) ?_
  exact thS (as := [.int p0]) (rest := []) C (t_X0_checkMoment l hl9 G p0 (fun q => hbad q)) F_X0_checkMoment rfl bw387 bw388 hE ht hk hl.1 dX0_isSameAs_1 ⟨Nat.le_of_ble_eq_true rfl, Nat.le_of_ble_eq_true rfl⟩ rfl (Nat.le_of_ble_eq_true rfl)

set_option maxRecDepth 100000 in
set_option maxHeartbeats 4000000 in
theorem tA_X0_isSameAs (l : Launch) (hl9 : l.stackTraces = false) (G : GT) (a : Nat → Nat) (p0 : Int32) (p1 : Int32) (h0 : vp_in p0 6) (hbad : ¬ ((¬ p1 < (0 : Int32) ∧ p1 ≤ (4 : Int32)))) : TH l G yX0_isSameAs cX0_isSameAs 3 (some .boolean) 8 [.ref (a 0), .int p0, .int p1] eA := by
  refine TH.ofW (own := RX0) rfl pnN_RX0 (Nat.le_of_ble_eq_true rfl) ?_
  intro p e s m below meth c C ht hk hE ls hl
  have hx := C.1
  have hb := C.2.1
  have hown := C.2.2.2.1
  have hw := C.2.2.2.2
  have hl : lv_has ls 3 [(0, .ref (a 0)), (1, .int p0), (2, .int p1)] := hl
  refine lv_iload_n hx hb dX0_isSameAs_0 rfl (lv_at hl 1 rfl) ?_
  refine rcSv (as := [.int p0]) (rest := []) C (c_X0_checkMoment l G p0 h0) F_X0_checkMoment rfl bw387 bw388 hE vpn hl.1 dX0_isSameAs_1 ⟨Nat.le_of_ble_eq_true rfl, Nat.le_of_ble_eq_true rfl⟩ rfl (Nat.le_of_ble_eq_true rfl) ⟨Nat.zero_le _, Nat.zero_le _⟩ ?_
  refine lv_iload_n hx hb dX0_isSameAs_4 rfl (lv_at hl 2 rfl) ?_
  refine lv_iconst (v := (0 : Int32)) hx hb dX0_isSameAs_5 qi_0 ?_
  refine lv_iconst (v := (4 : Int32)) hx hb dX0_isSameAs_6 qi_4 ?_
  exact thS (as := [.int p1, .int (0 : Int32), .int (4 : Int32)]) (rest := []) C (t_X0_checkRange l hl9 G p1 (0 : Int32) (4 : Int32) (fun q => hbad q)) F_X0_checkRange rfl bw308 bw309 hE ht hk hl.1 dX0_isSameAs_7 ⟨Nat.le_of_ble_eq_true rfl, Nat.le_of_ble_eq_true rfl⟩ rfl (Nat.le_of_ble_eq_true rfl)

set_option maxRecDepth 100000 in
set_option maxHeartbeats 4000000 in
theorem tI_X0_between (l : Launch) (hl9 : l.stackTraces = false) (G : GT) (a : Nat → Nat) (p0 : Int32) (p1 : Int32) (p2 : Int32) (hbad : ¬ (vp_in p0 6 ∧ vp_in p1 6)) : TH l G yX0_between cX0_between 4 (some (.object "java/lang/String")) 8 [.ref (a 0), .int p0, .int p1, .int p2] eI := by
  refine TH.ofW (own := RX0) rfl pnN_RX0 (Nat.le_of_ble_eq_true rfl) ?_
  intro p e s m below meth c C ht hk hE ls hl
  have hx := C.1
  have hb := C.2.1
  have hown := C.2.2.2.1
  have hw := C.2.2.2.2
  have hl : lv_has ls 4 [(0, .ref (a 0)), (1, .int p0), (2, .int p1), (3, .int p2)] := hl
  refine lv_iload_n hx hb dX0_between_0 rfl (lv_at hl 1 rfl) ?_
  by_cases k0 : vp_in p0 6
  · refine rcSv (as := [.int p0]) (rest := []) C (c_X0_checkMoment l G p0 k0) F_X0_checkMoment rfl bw387 bw388 hE vpn hl.1 dX0_between_1 ⟨Nat.le_of_ble_eq_true rfl, Nat.le_of_ble_eq_true rfl⟩ rfl (Nat.le_of_ble_eq_true rfl) ⟨Nat.zero_le _, Nat.zero_le _⟩ ?_
    refine lv_iload_n hx hb dX0_between_4 rfl (lv_at hl 2 rfl) ?_
    exact thS (as := [.int p1]) (rest := []) C (t_X0_checkMoment l hl9 G p1 (fun q => hbad ⟨k0, q⟩)) F_X0_checkMoment rfl bw387 bw388 hE ht hk hl.1 dX0_between_5 ⟨Nat.le_of_ble_eq_true rfl, Nat.le_of_ble_eq_true rfl⟩ rfl (Nat.le_of_ble_eq_true rfl)
  · exact thS (as := [.int p0]) (rest := []) C (t_X0_checkMoment l hl9 G p0 k0) F_X0_checkMoment rfl bw387 bw388 hE ht hk hl.1 dX0_between_1 ⟨Nat.le_of_ble_eq_true rfl, Nat.le_of_ble_eq_true rfl⟩ rfl (Nat.le_of_ble_eq_true rfl)

set_option maxRecDepth 100000 in
set_option maxHeartbeats 4000000 in
theorem tA_X0_between (l : Launch) (hl9 : l.stackTraces = false) (G : GT) (a : Nat → Nat) (p0 : Int32) (p1 : Int32) (p2 : Int32) (h0 : vp_in p0 6) (h1 : vp_in p1 6) (hbad : ¬ ((¬ p2 < (0 : Int32) ∧ p2 ≤ (13 : Int32)))) : TH l G yX0_between cX0_between 4 (some (.object "java/lang/String")) 8 [.ref (a 0), .int p0, .int p1, .int p2] eA := by
  refine TH.ofW (own := RX0) rfl pnN_RX0 (Nat.le_of_ble_eq_true rfl) ?_
  intro p e s m below meth c C ht hk hE ls hl
  have hx := C.1
  have hb := C.2.1
  have hown := C.2.2.2.1
  have hw := C.2.2.2.2
  have hl : lv_has ls 4 [(0, .ref (a 0)), (1, .int p0), (2, .int p1), (3, .int p2)] := hl
  refine lv_iload_n hx hb dX0_between_0 rfl (lv_at hl 1 rfl) ?_
  refine rcSv (as := [.int p0]) (rest := []) C (c_X0_checkMoment l G p0 h0) F_X0_checkMoment rfl bw387 bw388 hE vpn hl.1 dX0_between_1 ⟨Nat.le_of_ble_eq_true rfl, Nat.le_of_ble_eq_true rfl⟩ rfl (Nat.le_of_ble_eq_true rfl) ⟨Nat.zero_le _, Nat.zero_le _⟩ ?_
  refine lv_iload_n hx hb dX0_between_4 rfl (lv_at hl 2 rfl) ?_
  refine rcSv (as := [.int p1]) (rest := []) C (c_X0_checkMoment l G p1 h1) F_X0_checkMoment rfl bw387 bw388 hE vpn hl.1 dX0_between_5 ⟨Nat.le_of_ble_eq_true rfl, Nat.le_of_ble_eq_true rfl⟩ rfl (Nat.le_of_ble_eq_true rfl) ⟨Nat.zero_le _, Nat.zero_le _⟩ ?_
  refine lv_iload_n hx hb dX0_between_8 rfl (lv_at hl 3 rfl) ?_
  refine lv_iconst (v := (0 : Int32)) hx hb dX0_between_9 qi_0 ?_
  refine lv_bipush (v := (13 : Int32)) hx hb dX0_between_10 qb_13 ?_
  exact thS (as := [.int p2, .int (0 : Int32), .int (13 : Int32)]) (rest := []) C (t_X0_checkRange l hl9 G p2 (0 : Int32) (13 : Int32) (fun q => hbad q)) F_X0_checkRange rfl bw308 bw309 hE ht hk hl.1 dX0_between_12 ⟨Nat.le_of_ble_eq_true rfl, Nat.le_of_ble_eq_true rfl⟩ rfl (Nat.le_of_ble_eq_true rfl)

set_option maxRecDepth 100000 in
set_option maxHeartbeats 4000000 in
theorem tI_X0_until (l : Launch) (hl9 : l.stackTraces = false) (G : GT) (a : Nat → Nat) (p0 : Int32) (p1 : Int32) (p2 : Int32) (hbad : ¬ (vp_in p0 6 ∧ vp_in p1 6)) : TH l G yX0_until cX0_until 4 (some (.object "java/lang/String")) 8 [.ref (a 0), .int p0, .int p1, .int p2] eI := by
  refine TH.ofW (own := RX0) rfl pnN_RX0 (Nat.le_of_ble_eq_true rfl) ?_
  intro p e s m below meth c C ht hk hE ls hl
  have hx := C.1
  have hb := C.2.1
  have hown := C.2.2.2.1
  have hw := C.2.2.2.2
  have hl : lv_has ls 4 [(0, .ref (a 0)), (1, .int p0), (2, .int p1), (3, .int p2)] := hl
  refine lv_iload_n hx hb dX0_until_0 rfl (lv_at hl 1 rfl) ?_
  by_cases k0 : vp_in p0 6
  · refine rcSv (as := [.int p0]) (rest := []) C (c_X0_checkMoment l G p0 k0) F_X0_checkMoment rfl bw387 bw388 hE vpn hl.1 dX0_until_1 ⟨Nat.le_of_ble_eq_true rfl, Nat.le_of_ble_eq_true rfl⟩ rfl (Nat.le_of_ble_eq_true rfl) ⟨Nat.zero_le _, Nat.zero_le _⟩ ?_
    refine lv_iload_n hx hb dX0_until_4 rfl (lv_at hl 2 rfl) ?_
    exact thS (as := [.int p1]) (rest := []) C (t_X0_checkMoment l hl9 G p1 (fun q => hbad ⟨k0, q⟩)) F_X0_checkMoment rfl bw387 bw388 hE ht hk hl.1 dX0_until_5 ⟨Nat.le_of_ble_eq_true rfl, Nat.le_of_ble_eq_true rfl⟩ rfl (Nat.le_of_ble_eq_true rfl)
  · exact thS (as := [.int p0]) (rest := []) C (t_X0_checkMoment l hl9 G p0 k0) F_X0_checkMoment rfl bw387 bw388 hE ht hk hl.1 dX0_until_1 ⟨Nat.le_of_ble_eq_true rfl, Nat.le_of_ble_eq_true rfl⟩ rfl (Nat.le_of_ble_eq_true rfl)

set_option maxRecDepth 100000 in
set_option maxHeartbeats 4000000 in
theorem tA_X0_until (l : Launch) (hl9 : l.stackTraces = false) (G : GT) (a : Nat → Nat) (p0 : Int32) (p1 : Int32) (p2 : Int32) (h0 : vp_in p0 6) (h1 : vp_in p1 6) (hbad : ¬ ((¬ p2 < (0 : Int32) ∧ p2 ≤ (13 : Int32)))) : TH l G yX0_until cX0_until 4 (some (.object "java/lang/String")) 8 [.ref (a 0), .int p0, .int p1, .int p2] eA := by
  refine TH.ofW (own := RX0) rfl pnN_RX0 (Nat.le_of_ble_eq_true rfl) ?_
  intro p e s m below meth c C ht hk hE ls hl
  have hx := C.1
  have hb := C.2.1
  have hown := C.2.2.2.1
  have hw := C.2.2.2.2
  have hl : lv_has ls 4 [(0, .ref (a 0)), (1, .int p0), (2, .int p1), (3, .int p2)] := hl
  refine lv_iload_n hx hb dX0_until_0 rfl (lv_at hl 1 rfl) ?_
  refine rcSv (as := [.int p0]) (rest := []) C (c_X0_checkMoment l G p0 h0) F_X0_checkMoment rfl bw387 bw388 hE vpn hl.1 dX0_until_1 ⟨Nat.le_of_ble_eq_true rfl, Nat.le_of_ble_eq_true rfl⟩ rfl (Nat.le_of_ble_eq_true rfl) ⟨Nat.zero_le _, Nat.zero_le _⟩ ?_
  refine lv_iload_n hx hb dX0_until_4 rfl (lv_at hl 2 rfl) ?_
  refine rcSv (as := [.int p1]) (rest := []) C (c_X0_checkMoment l G p1 h1) F_X0_checkMoment rfl bw387 bw388 hE vpn hl.1 dX0_until_5 ⟨Nat.le_of_ble_eq_true rfl, Nat.le_of_ble_eq_true rfl⟩ rfl (Nat.le_of_ble_eq_true rfl) ⟨Nat.zero_le _, Nat.zero_le _⟩ ?_
  refine lv_iload_n hx hb dX0_until_8 rfl (lv_at hl 3 rfl) ?_
  refine lv_iconst (v := (0 : Int32)) hx hb dX0_until_9 qi_0 ?_
  refine lv_bipush (v := (13 : Int32)) hx hb dX0_until_10 qb_13 ?_
  exact thS (as := [.int p2, .int (0 : Int32), .int (13 : Int32)]) (rest := []) C (t_X0_checkRange l hl9 G p2 (0 : Int32) (13 : Int32) (fun q => hbad q)) F_X0_checkRange rfl bw308 bw309 hE ht hk hl.1 dX0_until_12 ⟨Nat.le_of_ble_eq_true rfl, Nat.le_of_ble_eq_true rfl⟩ rfl (Nat.le_of_ble_eq_true rfl)

set_option maxRecDepth 100000 in
set_option maxHeartbeats 4000000 in
theorem tA_X0_house (l : Launch) (hl9 : l.stackTraces = false) (G : GT) (a : Nat → Nat) (p0 : Int32) (hbad : ¬ ((¬ p0 < (0 : Int32) ∧ p0 ≤ (5 : Int32)))) : TH l G yX0_house cX0_house 2 (some .int) 8 [.ref (a 0), .int p0] eA := by
  refine TH.ofW (own := RX0) rfl pnN_RX0 (Nat.le_of_ble_eq_true rfl) ?_
  intro p e s m below meth c C ht hk hE ls hl
  have hx := C.1
  have hb := C.2.1
  have hown := C.2.2.2.1
  have hw := C.2.2.2.2
  have hl : lv_has ls 2 [(0, .ref (a 0)), (1, .int p0)] := hl
  refine lv_iload_n hx hb dX0_house_0 rfl (lv_at hl 1 rfl) ?_
  refine lv_iconst (v := (0 : Int32)) hx hb dX0_house_1 qi_0 ?_
  refine lv_iconst (v := (5 : Int32)) hx hb dX0_house_2 qi_5 ?_
  exact thS (as := [.int p0, .int (0 : Int32), .int (5 : Int32)]) (rest := []) C (t_X0_checkRange l hl9 G p0 (0 : Int32) (5 : Int32) (fun q => hbad q)) F_X0_checkRange rfl bw308 bw309 hE ht hk hl.1 dX0_house_3 ⟨Nat.le_of_ble_eq_true rfl, Nat.le_of_ble_eq_true rfl⟩ rfl (Nat.le_of_ble_eq_true rfl)
