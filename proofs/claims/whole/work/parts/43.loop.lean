set_option maxRecDepth 100000 in
set_option maxHeartbeats 4000000 in
theorem law_turn {p : Program} {l : Launch} {e : Env} {s : State} {m : MethodId} {below : List Frame} {meth : Method} {c : Code} {Q : State → Prop} {G : GT} {b9 L9 : Nat} {xs : Nat → Int32} {a bb : Nat → Nat} {o : Nat} (Z : LW p l s m meth c G b9 L9 xs) {i cells slots : Nat} (hi : i + 6 ≤ L9) (hf : cells + 200 ≤ room_1.cells ∧ slots + 5000 ≤ room_1.slots) {n : Int64} {sv : Value} {S : SX} {T : SM} (hR : Rel S T) {H : Heap} {locs : List Loc} {ls : Array Slot} (hP : va_P (gD G) vwCl (wM G bb T ++ wH G a o n sv S) H) (hD : va_D (fun q : Nat => s.heap.size ≤ q) (wM G bb T ++ wH G a o n sv S)) (hS : va_S (fun q : Nat => s.heap.size ≤ q) s.heap H locs) (hl : lv_has ls 7 [(0, .ref b9), (1, .ref (a 0)), (2, .ref (bb 0)), (3, .ref o), (4, .int (nI i))]) (kk : ∀ (n : Int64) (sv : Value) (S : SX) (T : SM) (H : Heap) (locs : List Loc) (ls : Array Slot), Rel S T → va_P (gD G) vwCl (wM G bb T ++ wH G a o n sv S) H → va_D (fun q : Nat => s.heap.size ≤ q) (wM G bb T ++ wH G a o n sv S) → va_S (fun q : Nat => s.heap.size ≤ q) s.heap H locs → lv_has ls 7 [(0, .ref b9), (1, .ref (a 0)), (2, .ref (bb 0)), (3, .ref o), (4, .int (nI i))] → W p l e room_1 s m #[Value.ref b9] below meth c H locs (cells + 200) (slots + 5000) Q (F0 m 3946 ls [])) : W p l e room_1 s m #[Value.ref b9] below meth c H locs (cells) (slots) Q (F0 m 37 ls []) := by
  obtain ⟨C, hE, hN, hX, hbl, hl9, hL9, hA, hAB, hbA⟩ := id Z
  have hx := C.1
  have hb := C.2.1
  have hml := C.2.2.1
  have hown := C.2.2.2.1
  have hw := C.2.2.2.2
  refine lv_aload_n hx hb dL_law_37 rfl (lv_at hl 0 rfl) ?_
  refine lv_iload hx hb dL_law_38 (lv_at hl 4 rfl) ?_
  refine va_sld hx hb hX hbl hbA hS (vp_in_nI (by omega) (by omega)) dL_law_40 ?_
  refine lv_bipush (v := (63 : Int32)) hx hb dL_law_41 qb_63 ?_
  refine lv_iand hx hb dL_law_43 ?_
  by_cases c_1 : ((xs (nI i).toNatClampNeg) &&& (63 : Int32)) = (0 : Int32)
  · refine lv_tableIn (tgt := 284) (off := 240) hx hb dL_law_44 (by rw [c_1]; decide) (by rw [c_1]; decide) (by rw [c_1]; decide) (by decide) ?_
    exact case_hand Z hi hf hR hP hD hS (lv_sub hl [0, 1, 2, 3, 4] rfl) kk
  by_cases c_2 : ((xs (nI i).toNatClampNeg) &&& (63 : Int32)) = (1 : Int32)
  · refine lv_tableIn (tgt := 377) (off := 333) hx hb dL_law_44 (by rw [c_2]; decide) (by rw [c_2]; decide) (by rw [c_2]; decide) (by decide) ?_
    exact case_of Z hi hf hR hP hD hS (lv_sub hl [0, 1, 2, 3, 4] rfl) kk
  by_cases c_3 : ((xs (nI i).toNatClampNeg) &&& (63 : Int32)) = (2 : Int32)
  · refine lv_tableIn (tgt := 482) (off := 438) hx hb dL_law_44 (by rw [c_3]; decide) (by rw [c_3]; decide) (by rw [c_3]; decide) (by decide) ?_
    exact case_ofDay Z hi hf hR hP hD hS (lv_sub hl [0, 1, 2, 3, 4] rfl) kk
  by_cases c_4 : ((xs (nI i).toNatClampNeg) &&& (63 : Int32)) = (3 : Int32)
  · refine lv_tableIn (tgt := 551) (off := 507) hx hb dL_law_44 (by rw [c_4]; decide) (by rw [c_4]; decide) (by rw [c_4]; decide) (by decide) ?_
    exact case_copy Z hi hf hR hP hD hS (lv_sub hl [0, 1, 2, 3, 4] rfl) kk
  by_cases c_5 : ((xs (nI i).toNatClampNeg) &&& (63 : Int32)) = (4 : Int32)
  · refine lv_tableIn (tgt := 620) (off := 576) hx hb dL_law_44 (by rw [c_5]; decide) (by rw [c_5]; decide) (by rw [c_5]; decide) (by decide) ?_
    exact case_takeDate Z hi hf hR hP hD hS (lv_sub hl [0, 1, 2, 3, 4] rfl) kk
  by_cases c_6 : ((xs (nI i).toNatClampNeg) &&& (63 : Int32)) = (5 : Int32)
  · refine lv_tableIn (tgt := 689) (off := 645) hx hb dL_law_44 (by rw [c_6]; decide) (by rw [c_6]; decide) (by rw [c_6]; decide) (by decide) ?_
    exact case_takeTime Z hi hf hR hP hD hS (lv_sub hl [0, 1, 2, 3, 4] rfl) kk
  by_cases c_7 : ((xs (nI i).toNatClampNeg) &&& (63 : Int32)) = (6 : Int32)
  · refine lv_tableIn (tgt := 758) (off := 714) hx hb dL_law_44 (by rw [c_7]; decide) (by rw [c_7]; decide) (by rw [c_7]; decide) (by decide) ?_
    exact case_withYear Z hi hf hR hP hD hS (lv_sub hl [0, 1, 2, 3, 4] rfl) kk
  by_cases c_8 : ((xs (nI i).toNatClampNeg) &&& (63 : Int32)) = (7 : Int32)
  · refine lv_tableIn (tgt := 827) (off := 783) hx hb dL_law_44 (by rw [c_8]; decide) (by rw [c_8]; decide) (by rw [c_8]; decide) (by decide) ?_
    exact case_withMonth Z hi hf hR hP hD hS (lv_sub hl [0, 1, 2, 3, 4] rfl) kk
  by_cases c_9 : ((xs (nI i).toNatClampNeg) &&& (63 : Int32)) = (8 : Int32)
  · refine lv_tableIn (tgt := 896) (off := 852) hx hb dL_law_44 (by rw [c_9]; decide) (by rw [c_9]; decide) (by rw [c_9]; decide) (by decide) ?_
    exact case_withDayOfMonth Z hi hf hR hP hD hS (lv_sub hl [0, 1, 2, 3, 4] rfl) kk
  by_cases c_10 : ((xs (nI i).toNatClampNeg) &&& (63 : Int32)) = (9 : Int32)
  · refine lv_tableIn (tgt := 965) (off := 921) hx hb dL_law_44 (by rw [c_10]; decide) (by rw [c_10]; decide) (by rw [c_10]; decide) (by decide) ?_
    exact case_withDayOfYear Z hi hf hR hP hD hS (lv_sub hl [0, 1, 2, 3, 4] rfl) kk
  by_cases c_11 : ((xs (nI i).toNatClampNeg) &&& (63 : Int32)) = (10 : Int32)
  · refine lv_tableIn (tgt := 1034) (off := 990) hx hb dL_law_44 (by rw [c_11]; decide) (by rw [c_11]; decide) (by rw [c_11]; decide) (by decide) ?_
    exact case_withHour Z hi hf hR hP hD hS (lv_sub hl [0, 1, 2, 3, 4] rfl) kk
  by_cases c_12 : ((xs (nI i).toNatClampNeg) &&& (63 : Int32)) = (11 : Int32)
  · refine lv_tableIn (tgt := 1103) (off := 1059) hx hb dL_law_44 (by rw [c_12]; decide) (by rw [c_12]; decide) (by rw [c_12]; decide) (by decide) ?_
    exact case_withMinute Z hi hf hR hP hD hS (lv_sub hl [0, 1, 2, 3, 4] rfl) kk
  by_cases c_13 : ((xs (nI i).toNatClampNeg) &&& (63 : Int32)) = (12 : Int32)
  · refine lv_tableIn (tgt := 1172) (off := 1128) hx hb dL_law_44 (by rw [c_13]; decide) (by rw [c_13]; decide) (by rw [c_13]; decide) (by decide) ?_
    exact case_withSecond Z hi hf hR hP hD hS (lv_sub hl [0, 1, 2, 3, 4] rfl) kk
  by_cases c_14 : ((xs (nI i).toNatClampNeg) &&& (63 : Int32)) = (13 : Int32)
  · refine lv_tableIn (tgt := 1241) (off := 1197) hx hb dL_law_44 (by rw [c_14]; decide) (by rw [c_14]; decide) (by rw [c_14]; decide) (by decide) ?_
    exact case_withNano Z hi hf hR hP hD hS (lv_sub hl [0, 1, 2, 3, 4] rfl) kk
  by_cases c_15 : ((xs (nI i).toNatClampNeg) &&& (63 : Int32)) = (14 : Int32)
  · refine lv_tableIn (tgt := 1310) (off := 1266) hx hb dL_law_44 (by rw [c_15]; decide) (by rw [c_15]; decide) (by rw [c_15]; decide) (by decide) ?_
    exact case_truncate Z hi hf hR hP hD hS (lv_sub hl [0, 1, 2, 3, 4] rfl) kk
  by_cases c_16 : ((xs (nI i).toNatClampNeg) &&& (63 : Int32)) = (15 : Int32)
  · refine lv_tableIn (tgt := 1379) (off := 1335) hx hb dL_law_44 (by rw [c_16]; decide) (by rw [c_16]; decide) (by rw [c_16]; decide) (by decide) ?_
    exact case_plusYears Z hi hf hR hP hD hS (lv_sub hl [0, 1, 2, 3, 4] rfl) kk
  by_cases c_17 : ((xs (nI i).toNatClampNeg) &&& (63 : Int32)) = (16 : Int32)
  · refine lv_tableIn (tgt := 1448) (off := 1404) hx hb dL_law_44 (by rw [c_17]; decide) (by rw [c_17]; decide) (by rw [c_17]; decide) (by decide) ?_
    exact case_plusMonths Z hi hf hR hP hD hS (lv_sub hl [0, 1, 2, 3, 4] rfl) kk
  by_cases c_18 : ((xs (nI i).toNatClampNeg) &&& (63 : Int32)) = (17 : Int32)
  · refine lv_tableIn (tgt := 1517) (off := 1473) hx hb dL_law_44 (by rw [c_18]; decide) (by rw [c_18]; decide) (by rw [c_18]; decide) (by decide) ?_
    exact case_plusWeeks Z hi hf hR hP hD hS (lv_sub hl [0, 1, 2, 3, 4] rfl) kk
  by_cases c_19 : ((xs (nI i).toNatClampNeg) &&& (63 : Int32)) = (18 : Int32)
  · refine lv_tableIn (tgt := 1586) (off := 1542) hx hb dL_law_44 (by rw [c_19]; decide) (by rw [c_19]; decide) (by rw [c_19]; decide) (by decide) ?_
    exact case_plusDays Z hi hf hR hP hD hS (lv_sub hl [0, 1, 2, 3, 4] rfl) kk
  by_cases c_20 : ((xs (nI i).toNatClampNeg) &&& (63 : Int32)) = (19 : Int32)
  · refine lv_tableIn (tgt := 1655) (off := 1611) hx hb dL_law_44 (by rw [c_20]; decide) (by rw [c_20]; decide) (by rw [c_20]; decide) (by decide) ?_
    exact case_plusHours Z hi hf hR hP hD hS (lv_sub hl [0, 1, 2, 3, 4] rfl) kk
  by_cases c_21 : ((xs (nI i).toNatClampNeg) &&& (63 : Int32)) = (20 : Int32)
  · refine lv_tableIn (tgt := 1724) (off := 1680) hx hb dL_law_44 (by rw [c_21]; decide) (by rw [c_21]; decide) (by rw [c_21]; decide) (by decide) ?_
    exact case_plusMinutes Z hi hf hR hP hD hS (lv_sub hl [0, 1, 2, 3, 4] rfl) kk
  by_cases c_22 : ((xs (nI i).toNatClampNeg) &&& (63 : Int32)) = (21 : Int32)
  · refine lv_tableIn (tgt := 1793) (off := 1749) hx hb dL_law_44 (by rw [c_22]; decide) (by rw [c_22]; decide) (by rw [c_22]; decide) (by decide) ?_
    exact case_plusSeconds Z hi hf hR hP hD hS (lv_sub hl [0, 1, 2, 3, 4] rfl) kk
  by_cases c_23 : ((xs (nI i).toNatClampNeg) &&& (63 : Int32)) = (22 : Int32)
  · refine lv_tableIn (tgt := 1862) (off := 1818) hx hb dL_law_44 (by rw [c_23]; decide) (by rw [c_23]; decide) (by rw [c_23]; decide) (by decide) ?_
    exact case_minusYears Z hi hf hR hP hD hS (lv_sub hl [0, 1, 2, 3, 4] rfl) kk
  by_cases c_24 : ((xs (nI i).toNatClampNeg) &&& (63 : Int32)) = (23 : Int32)
  · refine lv_tableIn (tgt := 1931) (off := 1887) hx hb dL_law_44 (by rw [c_24]; decide) (by rw [c_24]; decide) (by rw [c_24]; decide) (by decide) ?_
    exact case_minusMonths Z hi hf hR hP hD hS (lv_sub hl [0, 1, 2, 3, 4] rfl) kk
  by_cases c_25 : ((xs (nI i).toNatClampNeg) &&& (63 : Int32)) = (24 : Int32)
  · refine lv_tableIn (tgt := 2000) (off := 1956) hx hb dL_law_44 (by rw [c_25]; decide) (by rw [c_25]; decide) (by rw [c_25]; decide) (by decide) ?_
    exact case_minusWeeks Z hi hf hR hP hD hS (lv_sub hl [0, 1, 2, 3, 4] rfl) kk
  by_cases c_26 : ((xs (nI i).toNatClampNeg) &&& (63 : Int32)) = (25 : Int32)
  · refine lv_tableIn (tgt := 2069) (off := 2025) hx hb dL_law_44 (by rw [c_26]; decide) (by rw [c_26]; decide) (by rw [c_26]; decide) (by decide) ?_
    exact case_minusDays Z hi hf hR hP hD hS (lv_sub hl [0, 1, 2, 3, 4] rfl) kk
  by_cases c_27 : ((xs (nI i).toNatClampNeg) &&& (63 : Int32)) = (26 : Int32)
  · refine lv_tableIn (tgt := 2138) (off := 2094) hx hb dL_law_44 (by rw [c_27]; decide) (by rw [c_27]; decide) (by rw [c_27]; decide) (by decide) ?_
    exact case_minusHours Z hi hf hR hP hD hS (lv_sub hl [0, 1, 2, 3, 4] rfl) kk
  by_cases c_28 : ((xs (nI i).toNatClampNeg) &&& (63 : Int32)) = (27 : Int32)
  · refine lv_tableIn (tgt := 2207) (off := 2163) hx hb dL_law_44 (by rw [c_28]; decide) (by rw [c_28]; decide) (by rw [c_28]; decide) (by decide) ?_
    exact case_minusMinutes Z hi hf hR hP hD hS (lv_sub hl [0, 1, 2, 3, 4] rfl) kk
  by_cases c_29 : ((xs (nI i).toNatClampNeg) &&& (63 : Int32)) = (28 : Int32)
  · refine lv_tableIn (tgt := 2276) (off := 2232) hx hb dL_law_44 (by rw [c_29]; decide) (by rw [c_29]; decide) (by rw [c_29]; decide) (by decide) ?_
    exact case_minusSeconds Z hi hf hR hP hD hS (lv_sub hl [0, 1, 2, 3, 4] rfl) kk
  by_cases c_30 : ((xs (nI i).toNatClampNeg) &&& (63 : Int32)) = (29 : Int32)
  · refine lv_tableIn (tgt := 2345) (off := 2301) hx hb dL_law_44 (by rw [c_30]; decide) (by rw [c_30]; decide) (by rw [c_30]; decide) (by decide) ?_
    exact case_plusNanos Z hi hf hR hP hD hS (lv_sub hl [0, 1, 2, 3, 4] rfl) kk
  by_cases c_31 : ((xs (nI i).toNatClampNeg) &&& (63 : Int32)) = (30 : Int32)
  · refine lv_tableIn (tgt := 2426) (off := 2382) hx hb dL_law_44 (by rw [c_31]; decide) (by rw [c_31]; decide) (by rw [c_31]; decide) (by decide) ?_
    exact case_minusNanos Z hi hf hR hP hD hS (lv_sub hl [0, 1, 2, 3, 4] rfl) kk
  by_cases c_32 : ((xs (nI i).toNatClampNeg) &&& (63 : Int32)) = (31 : Int32)
  · refine lv_tableIn (tgt := 2507) (off := 2463) hx hb dL_law_44 (by rw [c_32]; decide) (by rw [c_32]; decide) (by rw [c_32]; decide) (by decide) ?_
    exact case_plusUnits Z hi hf hR hP hD hS (lv_sub hl [0, 1, 2, 3, 4] rfl) kk
  by_cases c_33 : ((xs (nI i).toNatClampNeg) &&& (63 : Int32)) = (32 : Int32)
  · refine lv_tableIn (tgt := 2588) (off := 2544) hx hb dL_law_44 (by rw [c_33]; decide) (by rw [c_33]; decide) (by rw [c_33]; decide) (by decide) ?_
    exact case_year Z hi hf hR hP hD hS (lv_sub hl [0, 1, 2, 3, 4] rfl) kk
  by_cases c_34 : ((xs (nI i).toNatClampNeg) &&& (63 : Int32)) = (33 : Int32)
  · refine lv_tableIn (tgt := 2645) (off := 2601) hx hb dL_law_44 (by rw [c_34]; decide) (by rw [c_34]; decide) (by rw [c_34]; decide) (by decide) ?_
    exact case_month Z hi hf hR hP hD hS (lv_sub hl [0, 1, 2, 3, 4] rfl) kk
  by_cases c_35 : ((xs (nI i).toNatClampNeg) &&& (63 : Int32)) = (34 : Int32)
  · refine lv_tableIn (tgt := 2702) (off := 2658) hx hb dL_law_44 (by rw [c_35]; decide) (by rw [c_35]; decide) (by rw [c_35]; decide) (by decide) ?_
    exact case_dayOfMonth Z hi hf hR hP hD hS (lv_sub hl [0, 1, 2, 3, 4] rfl) kk
  by_cases c_36 : ((xs (nI i).toNatClampNeg) &&& (63 : Int32)) = (35 : Int32)
  · refine lv_tableIn (tgt := 2759) (off := 2715) hx hb dL_law_44 (by rw [c_36]; decide) (by rw [c_36]; decide) (by rw [c_36]; decide) (by decide) ?_
    exact case_dayOfYear Z hi hf hR hP hD hS (lv_sub hl [0, 1, 2, 3, 4] rfl) kk
  by_cases c_37 : ((xs (nI i).toNatClampNeg) &&& (63 : Int32)) = (36 : Int32)
  · refine lv_tableIn (tgt := 2816) (off := 2772) hx hb dL_law_44 (by rw [c_37]; decide) (by rw [c_37]; decide) (by rw [c_37]; decide) (by decide) ?_
    exact case_dayOfWeek Z hi hf hR hP hD hS (lv_sub hl [0, 1, 2, 3, 4] rfl) kk
  by_cases c_38 : ((xs (nI i).toNatClampNeg) &&& (63 : Int32)) = (37 : Int32)
  · refine lv_tableIn (tgt := 2873) (off := 2829) hx hb dL_law_44 (by rw [c_38]; decide) (by rw [c_38]; decide) (by rw [c_38]; decide) (by decide) ?_
    exact case_hour Z hi hf hR hP hD hS (lv_sub hl [0, 1, 2, 3, 4] rfl) kk
  by_cases c_39 : ((xs (nI i).toNatClampNeg) &&& (63 : Int32)) = (38 : Int32)
  · refine lv_tableIn (tgt := 2930) (off := 2886) hx hb dL_law_44 (by rw [c_39]; decide) (by rw [c_39]; decide) (by rw [c_39]; decide) (by decide) ?_
    exact case_minute Z hi hf hR hP hD hS (lv_sub hl [0, 1, 2, 3, 4] rfl) kk
  by_cases c_40 : ((xs (nI i).toNatClampNeg) &&& (63 : Int32)) = (39 : Int32)
  · refine lv_tableIn (tgt := 2987) (off := 2943) hx hb dL_law_44 (by rw [c_40]; decide) (by rw [c_40]; decide) (by rw [c_40]; decide) (by decide) ?_
    exact case_second Z hi hf hR hP hD hS (lv_sub hl [0, 1, 2, 3, 4] rfl) kk
  by_cases c_41 : ((xs (nI i).toNatClampNeg) &&& (63 : Int32)) = (40 : Int32)
  · refine lv_tableIn (tgt := 3044) (off := 3000) hx hb dL_law_44 (by rw [c_41]; decide) (by rw [c_41]; decide) (by rw [c_41]; decide) (by decide) ?_
    exact case_nano Z hi hf hR hP hD hS (lv_sub hl [0, 1, 2, 3, 4] rfl) kk
  by_cases c_42 : ((xs (nI i).toNatClampNeg) &&& (63 : Int32)) = (41 : Int32)
  · refine lv_tableIn (tgt := 3101) (off := 3057) hx hb dL_law_44 (by rw [c_42]; decide) (by rw [c_42]; decide) (by rw [c_42]; decide) (by decide) ?_
    exact case_day Z hi hf hR hP hD hS (lv_sub hl [0, 1, 2, 3, 4] rfl) kk
  by_cases c_43 : ((xs (nI i).toNatClampNeg) &&& (63 : Int32)) = (42 : Int32)
  · refine lv_tableIn (tgt := 3158) (off := 3114) hx hb dL_law_44 (by rw [c_43]; decide) (by rw [c_43]; decide) (by rw [c_43]; decide) (by decide) ?_
    exact case_secondOfDay Z hi hf hR hP hD hS (lv_sub hl [0, 1, 2, 3, 4] rfl) kk
  by_cases c_44 : ((xs (nI i).toNatClampNeg) &&& (63 : Int32)) = (43 : Int32)
  · refine lv_tableIn (tgt := 3215) (off := 3171) hx hb dL_law_44 (by rw [c_44]; decide) (by rw [c_44]; decide) (by rw [c_44]; decide) (by decide) ?_
    exact case_lengthOfMonth Z hi hf hR hP hD hS (lv_sub hl [0, 1, 2, 3, 4] rfl) kk
  by_cases c_45 : ((xs (nI i).toNatClampNeg) &&& (63 : Int32)) = (44 : Int32)
  · refine lv_tableIn (tgt := 3272) (off := 3228) hx hb dL_law_44 (by rw [c_45]; decide) (by rw [c_45]; decide) (by rw [c_45]; decide) (by decide) ?_
    exact case_nanoOfDay Z hi hf hR hP hD hS (lv_sub hl [0, 1, 2, 3, 4] rfl) kk
  by_cases c_46 : ((xs (nI i).toNatClampNeg) &&& (63 : Int32)) = (45 : Int32)
  · refine lv_tableIn (tgt := 3330) (off := 3286) hx hb dL_law_44 (by rw [c_46]; decide) (by rw [c_46]; decide) (by rw [c_46]; decide) (by decide) ?_
    exact case_isLeap Z hi hf hR hP hD hS (lv_sub hl [0, 1, 2, 3, 4] rfl) kk
  by_cases c_47 : ((xs (nI i).toNatClampNeg) &&& (63 : Int32)) = (46 : Int32)
  · refine lv_tableIn (tgt := 3394) (off := 3350) hx hb dL_law_44 (by rw [c_47]; decide) (by rw [c_47]; decide) (by rw [c_47]; decide) (by decide) ?_
    exact case_field Z hi hf hR hP hD hS (lv_sub hl [0, 1, 2, 3, 4] rfl) kk
  by_cases c_48 : ((xs (nI i).toNatClampNeg) &&& (63 : Int32)) = (47 : Int32)
  · refine lv_tableIn (tgt := 3464) (off := 3420) hx hb dL_law_44 (by rw [c_48]; decide) (by rw [c_48]; decide) (by rw [c_48]; decide) (by decide) ?_
    exact case_compare Z hi hf hR hP hD hS (lv_sub hl [0, 1, 2, 3, 4] rfl) kk
  by_cases c_49 : ((xs (nI i).toNatClampNeg) &&& (63 : Int32)) = (48 : Int32)
  · refine lv_tableIn (tgt := 3533) (off := 3489) hx hb dL_law_44 (by rw [c_49]; decide) (by rw [c_49]; decide) (by rw [c_49]; decide) (by decide) ?_
    exact case_isSame Z hi hf hR hP hD hS (lv_sub hl [0, 1, 2, 3, 4] rfl) kk
  by_cases c_50 : ((xs (nI i).toNatClampNeg) &&& (63 : Int32)) = (49 : Int32)
  · refine lv_tableIn (tgt := 3609) (off := 3565) hx hb dL_law_44 (by rw [c_50]; decide) (by rw [c_50]; decide) (by rw [c_50]; decide) (by decide) ?_
    exact case_isSameAs Z hi hf hR hP hD hS (lv_sub hl [0, 1, 2, 3, 4] rfl) kk
  by_cases c_51 : ((xs (nI i).toNatClampNeg) &&& (63 : Int32)) = (50 : Int32)
  · refine lv_tableIn (tgt := 3685) (off := 3641) hx hb dL_law_44 (by rw [c_51]; decide) (by rw [c_51]; decide) (by rw [c_51]; decide) (by decide) ?_
    exact case_between Z hi hf hR hP hD hS (lv_sub hl [0, 1, 2, 3, 4] rfl) kk
  by_cases c_52 : ((xs (nI i).toNatClampNeg) &&& (63 : Int32)) = (51 : Int32)
  · refine lv_tableIn (tgt := 3767) (off := 3723) hx hb dL_law_44 (by rw [c_52]; decide) (by rw [c_52]; decide) (by rw [c_52]; decide) (by decide) ?_
    exact case_until Z hi hf hR hP hD hS (lv_sub hl [0, 1, 2, 3, 4] rfl) kk
  by_cases c_53 : ((xs (nI i).toNatClampNeg) &&& (63 : Int32)) = (52 : Int32)
  · refine lv_tableIn (tgt := 3849) (off := 3805) hx hb dL_law_44 (by rw [c_53]; decide) (by rw [c_53]; decide) (by rw [c_53]; decide) (by decide) ?_
    exact case_house Z hi hf hR hP hD hS (lv_sub hl [0, 1, 2, 3, 4] rfl) kk
  by_cases c_54 : ((xs (nI i).toNatClampNeg) &&& (63 : Int32)) = (53 : Int32)
  · refine lv_tableIn (tgt := 3906) (off := 3862) hx hb dL_law_44 (by rw [c_54]; decide) (by rw [c_54]; decide) (by rw [c_54]; decide) (by decide) ?_
    exact case_knock Z hi hf hR hP hD hS (lv_sub hl [0, 1, 2, 3, 4] rfl) kk
  by_cases c_55 : ((xs (nI i).toNatClampNeg) &&& (63 : Int32)) = (54 : Int32)
  · refine lv_tableIn (tgt := 3919) (off := 3875) hx hb dL_law_44 (by rw [c_55]; decide) (by rw [c_55]; decide) (by rw [c_55]; decide) (by decide) ?_
    exact case_isSound Z hi hf hR hP hD hS (lv_sub hl [0, 1, 2, 3, 4] rfl) kk
  by_cases c_56 : ((xs (nI i).toNatClampNeg) &&& (63 : Int32)) = (55 : Int32)
  · refine lv_tableIn (tgt := 3932) (off := 3888) hx hb dL_law_44 (by rw [c_56]; decide) (by rw [c_56]; decide) (by rw [c_56]; decide) (by decide) ?_
    exact case_digest Z hi hf hR hP hD hS (lv_sub hl [0, 1, 2, 3, 4] rfl) kk
  have nc_1 := lv_neT c_1 (a := 0) (by decide)
  have nc_2 := lv_neT c_2 (a := 1) (by decide)
  have nc_3 := lv_neT c_3 (a := 2) (by decide)
  have nc_4 := lv_neT c_4 (a := 3) (by decide)
  have nc_5 := lv_neT c_5 (a := 4) (by decide)
  have nc_6 := lv_neT c_6 (a := 5) (by decide)
  have nc_7 := lv_neT c_7 (a := 6) (by decide)
  have nc_8 := lv_neT c_8 (a := 7) (by decide)
  have nc_9 := lv_neT c_9 (a := 8) (by decide)
  have nc_10 := lv_neT c_10 (a := 9) (by decide)
  have nc_11 := lv_neT c_11 (a := 10) (by decide)
  have nc_12 := lv_neT c_12 (a := 11) (by decide)
  have nc_13 := lv_neT c_13 (a := 12) (by decide)
  have nc_14 := lv_neT c_14 (a := 13) (by decide)
  have nc_15 := lv_neT c_15 (a := 14) (by decide)
  have nc_16 := lv_neT c_16 (a := 15) (by decide)
  have nc_17 := lv_neT c_17 (a := 16) (by decide)
  have nc_18 := lv_neT c_18 (a := 17) (by decide)
  have nc_19 := lv_neT c_19 (a := 18) (by decide)
  have nc_20 := lv_neT c_20 (a := 19) (by decide)
  have nc_21 := lv_neT c_21 (a := 20) (by decide)
  have nc_22 := lv_neT c_22 (a := 21) (by decide)
  have nc_23 := lv_neT c_23 (a := 22) (by decide)
  have nc_24 := lv_neT c_24 (a := 23) (by decide)
  have nc_25 := lv_neT c_25 (a := 24) (by decide)
  have nc_26 := lv_neT c_26 (a := 25) (by decide)
  have nc_27 := lv_neT c_27 (a := 26) (by decide)
  have nc_28 := lv_neT c_28 (a := 27) (by decide)
  have nc_29 := lv_neT c_29 (a := 28) (by decide)
  have nc_30 := lv_neT c_30 (a := 29) (by decide)
  have nc_31 := lv_neT c_31 (a := 30) (by decide)
  have nc_32 := lv_neT c_32 (a := 31) (by decide)
  have nc_33 := lv_neT c_33 (a := 32) (by decide)
  have nc_34 := lv_neT c_34 (a := 33) (by decide)
  have nc_35 := lv_neT c_35 (a := 34) (by decide)
  have nc_36 := lv_neT c_36 (a := 35) (by decide)
  have nc_37 := lv_neT c_37 (a := 36) (by decide)
  have nc_38 := lv_neT c_38 (a := 37) (by decide)
  have nc_39 := lv_neT c_39 (a := 38) (by decide)
  have nc_40 := lv_neT c_40 (a := 39) (by decide)
  have nc_41 := lv_neT c_41 (a := 40) (by decide)
  have nc_42 := lv_neT c_42 (a := 41) (by decide)
  have nc_43 := lv_neT c_43 (a := 42) (by decide)
  have nc_44 := lv_neT c_44 (a := 43) (by decide)
  have nc_45 := lv_neT c_45 (a := 44) (by decide)
  have nc_46 := lv_neT c_46 (a := 45) (by decide)
  have nc_47 := lv_neT c_47 (a := 46) (by decide)
  have nc_48 := lv_neT c_48 (a := 47) (by decide)
  have nc_49 := lv_neT c_49 (a := 48) (by decide)
  have nc_50 := lv_neT c_50 (a := 49) (by decide)
  have nc_51 := lv_neT c_51 (a := 50) (by decide)
  have nc_52 := lv_neT c_52 (a := 51) (by decide)
  have nc_53 := lv_neT c_53 (a := 52) (by decide)
  have nc_54 := lv_neT c_54 (a := 53) (by decide)
  have nc_55 := lv_neT c_55 (a := 54) (by decide)
  have nc_56 := lv_neT c_56 (a := 55) (by decide)
  refine lv_tableOut (tgt := 3946) hx hb dL_law_44 (by omega) (by decide) ?_
  refine W.widen (k := cells + 200) (n := slots + 5000) (by omega) (by omega) ?_
  exact kk n sv S T _ _ ls hR hP hD hS (lv_sub hl [0, 1, 2, 3, 4] rfl)

theorem ll_in {L i : Nat} (hL : L ≤ 3072) (hi : i < 4000) (h : ¬ (nI L - (6 : Int32)) < nI i) : i + 6 ≤ L := by
  have e1 : (nI L - (6 : Int32)).toInt = (L : Int) - 6 := pk_sub_toInt (a := L) (b := 6) (by omega) (by omega)
  have e2 : (nI i).toInt = (i : Int) := nI_toInt (by omega)
  rw [Int32.lt_iff_toInt_lt, e1, e2] at h
  omega

set_option maxRecDepth 100000 in
set_option maxHeartbeats 4000000 in
theorem law_loop {p : Program} {l : Launch} {e : Env} {s : State} {m : MethodId} {below : List Frame} {meth : Method} {c : Code} {G : GT} {b9 L9 : Nat} {xs : Nat → Int32} {a bb : Nat → Nat} {o : Nat} (Z : LW p l s m meth c G b9 L9 xs) (hret : meth.sig.returnType = ret) (hlocks : meth.locks = false) : ∀ (fu i cells slots : Nat), L9 < i + 6 * fu → i < 4000 → ∀ (n : Int64) (sv : Value) (S : SX) (T : SM) (H : Heap) (locs : List Loc) (ls : Array Slot), Rel S T → va_P (gD G) vwCl (wM G bb T ++ wH G a o n sv S) H → va_D (fun q : Nat => s.heap.size ≤ q) (wM G bb T ++ wH G a o n sv S) → va_S (fun q : Nat => s.heap.size ≤ q) s.heap H locs → lv_has ls 7 [(0, .ref b9), (1, .ref (a 0)), (2, .ref (bb 0)), (3, .ref o), (4, .int (nI i))] → cells + 200 * fu ≤ 787017 → slots + 5000 * fu ≤ 6735054 → W p l e room_1 s m #[Value.ref b9] below meth c H locs (cells) (slots) (lw_Z below #[Value.ref b9] s) (F0 m 27 ls []) := by
  obtain ⟨C, hE, hN, hX, hbl, hl9, hL9, hA, hAB, hbA⟩ := id Z
  have hx := C.1
  have hb := C.2.1
  have hml := C.2.2.1
  have hown := C.2.2.2.1
  have hw := C.2.2.2.2
  intro fu
  induction fu with
  | zero =>
    intro i cells slots h1 h2 n sv S T H locs ls hR hP hD hS hl h3 h4
    refine lv_iload hx hb dL_law_27 (lv_at hl 4 rfl) ?_
    refine lv_aload_n hx hb dL_law_29 rfl (lv_at hl 0 rfl) ?_
    refine va_slen hx hb hX hbl hbA hS dL_law_30 ?_
    refine lv_bipush (v := (6 : Int32)) hx hb dL_law_31 qb_6 ?_
    refine lv_isub hx hb dL_law_33 ?_
    refine lv_icmp_gt (tgt := 3952) hx hb dL_law_34 (by decide) (fun c_1 => ?_) (fun c_1 => ?_)
    · refine lv_iconst (v := (1 : Int32)) hx hb dL_law_3952 qi_1 ?_
      refine va_forget (fun q hq => hS.2.2 q hq) ?_
      refine W.widen (k := 787017) (n := 6735054) (by omega) (by omega) ?_
      exact lw_ret hx hb hret hlocks dL_law_3953
    · have z := ll_in hL9 h2 c_1
      omega
  | succ fu ih =>
    intro i cells slots h1 h2 n sv S T H locs ls hR hP hD hS hl h3 h4
    have hroom : cells + 200 ≤ room_1.cells ∧ slots + 5000 ≤ room_1.slots := ⟨by show _ ≤ 787017; omega, by show _ ≤ 6735054; omega⟩
    refine lv_iload hx hb dL_law_27 (lv_at hl 4 rfl) ?_
    refine lv_aload_n hx hb dL_law_29 rfl (lv_at hl 0 rfl) ?_
    refine va_slen hx hb hX hbl hbA hS dL_law_30 ?_
    refine lv_bipush (v := (6 : Int32)) hx hb dL_law_31 qb_6 ?_
    refine lv_isub hx hb dL_law_33 ?_
    refine lv_icmp_gt (tgt := 3952) hx hb dL_law_34 (by decide) (fun c_1 => ?_) (fun c_1 => ?_)
    · refine lv_iconst (v := (1 : Int32)) hx hb dL_law_3952 qi_1 ?_
      refine va_forget (fun q hq => hS.2.2 q hq) ?_
      refine W.widen (k := 787017) (n := 6735054) (by omega) (by omega) ?_
      exact lw_ret hx hb hret hlocks dL_law_3953
    · have hi : i + 6 ≤ L9 := ll_in hL9 h2 c_1
      refine law_turn Z hi ⟨by have := hroom.1; omega, by have := hroom.2; omega⟩ hR hP hD hS hl (fun n sv S T H locs ls hR hP hD hS hl => ?_)
      refine lv_iinc (v := (nI (i + 6))) (lv' := [(4, .int (nI (i + 6))), (0, .ref b9), (1, .ref (a 0)), (2, .ref (bb 0)), (3, .ref o)]) hx hb dL_law_3946 hl (k := 4) rfl (nI_add i 6) (Nat.le_of_ble_eq_true rfl) rfl (fun ls hl => ?_)
      refine lv_goto (tgt := 27) hx hb dL_law_3949 (by decide) ?_
      exact ih (i + 6) _ _ (by omega) (by omega) n sv S T _ _ ls hR hP hD hS (lv_sub hl [1, 2, 3, 4, 0] rfl) (by omega) (by omega)
theorem xsel_ok {args : Array Value} {s : State} (hts : ∀ w ∈ lw_tbl, w.before args s = true) : ∀ w ∈ xsel ++ lw_tbl, w.before args s = true := by
  have z1 : Cond.selects RJ4 yJ5_isLatin1_aae02 yJ5_isLatin1_aae02 ∈ lw_tbl := List.mem_of_getElem? (i := 855) (by decide +kernel)
  have z2 : Cond.instanceMethod yJ5_isLatin1_aae02 ∈ lw_tbl := List.mem_of_getElem? (i := 853) (by decide +kernel)
  intro w hw
  rcases List.mem_append.mp hw with hw | hw
  · rcases List.mem_cons.mp hw with rfl | hw
    · exact selP (hts _ z1) (hts _ z2) rfl (by decide +kernel) (hts _ (List.mem_of_getElem? (i := 820) (by decide +kernel))) (hts _ (List.mem_of_getElem? (i := 821) (by decide +kernel)))
    · rcases List.mem_cons.mp hw with rfl | hw
      · exact selP (hts _ z1) (hts _ z2) rfl (by decide +kernel) (hts _ (List.mem_of_getElem? (i := 824) (by decide +kernel))) (hts _ (List.mem_of_getElem? (i := 825) (by decide +kernel)))
      · rcases List.mem_cons.mp hw with rfl | hw
        · exact selP (hts _ z1) (hts _ z2) rfl (by decide +kernel) (hts _ (List.mem_of_getElem? (i := 1037) (by decide +kernel))) (hts _ (List.mem_of_getElem? (i := 1038) (by decide +kernel)))
        · rcases List.mem_cons.mp hw with rfl | hw
          · exact selP (hts _ z1) (hts _ z2) rfl (by decide +kernel) (hts _ (List.mem_of_getElem? (i := 1041) (by decide +kernel))) (hts _ (List.mem_of_getElem? (i := 1042) (by decide +kernel)))
          · cases hw
  · exact hts w hw
set_option maxRecDepth 100000 in
set_option maxHeartbeats 4000000 in
theorem whole_start {p : Program} {e : Env} {s : State} {m : MethodId} {below : List Frame} {meth : Method} {c : Code} (l : Launch) (hflags : l.flags = flags0) {b L : Nat} {xs : Nat → Int32} (hL : L ≤ 3072) (C0 : lw_At p s m meth c b L xs) : W p l e room_1 s m #[Value.ref b] below meth c s.heap [] 0 0 (lw_Z below #[Value.ref b] s) (entryFrame m ([Value.ref b] : List Value).toArray 7) := by
  obtain ⟨hx, hb, hr, hml, hown, hts, hX, hbl, hlocks, hgv⟩ := id C0
  have hl9 : l.stackTraces = false := by rw [Launch.stackTraces, hflags]; decide +kernel
  have hw : ∀ w ∈ BW, w.before #[Value.ref b] s = true := fun w h => xsel_ok hts w (tBW h)
  obtain ⟨G, hG, hE⟩ := ev_start hts hgv
  have hN := ne_start hts hgv
  have hA : ∀ q : Nat, s.heap.size ≤ q → (fun q : Nat => s.heap.size ≤ q) q := fun _ h => h
  have hAB : ∀ q : Nat, (fun q : Nat => s.heap.size ≤ q) q → gB G ≤ q := fun q h => by rw [hG]; exact h
  have hbA : ¬ (fun q : Nat => s.heap.size ≤ q) b := Nat.not_le.mpr hbl
  have hS : va_S (fun q : Nat => s.heap.size ≤ q) s.heap s.heap [] := va_S.rf
  have hP : va_P (gD G) vwCl [] s.heap := vpn
  have hD : va_D (fun q : Nat => s.heap.size ≤ q) [] := vdn _
  have hl := lv_entry ([.ref b]) (n := 7) (Nat.le_of_ble_eq_true rfl)
  rw [lg_entry_eq]
  generalize (lg_sl ([.ref b]) ++ List.replicate (7 - (lg_sl ([.ref b])).length) Slot.unset).toArray = ls at hl ⊢
  have hl : lv_has ls 7 [(0, .ref b)] := hl
  have C : CallFix p m c code 7 s #[Value.ref b] BW R_law := ⟨hx, hb, hml, hown, hw⟩
  refine va_new (D := gD G) (cl := vwCl) (tys := gT G) (ws := []) (ci := 2) (fs := [.null, .null, .null, .null, .null, .int 0, .int 0, .int 0, .int 0, .int 0, .int 0, .int 0]) (C := RX0) (T := TX0) (N := 12) hx hb hw inB_X0 tyX0 tyX0_ok hown (hw _ bw78) (hw _ bw79) (hw _ bw57) hE.K hP hD hS hA rfl (fun j hj => by rcases (show j = 0 ∨ j = 1 ∨ j = 2 ∨ j = 3 ∨ j = 4 ∨ j = 5 ∨ j = 6 ∨ j = 7 ∨ j = 8 ∨ j = 9 ∨ j = 10 ∨ j = 11 by omega) with rfl | rfl | rfl | rfl | rfl | rfl | rfl | rfl | rfl | rfl | rfl | rfl <;> rfl) (Nat.le_of_ble_eq_true rfl) (Nat.le_of_ble_eq_true rfl) dL_law_0 (fun q0 H hP hD hS => ?_)
  have hP : va_P (gD G) vwCl ([(q0, .inr (2, [.null, .null, .null, .null, .null, .int 0, .int 0, .int 0, .int 0, .int 0, .int 0, .int 0]))]) H := hP
  have hD : va_D (fun q : Nat => s.heap.size ≤ q) ([(q0, .inr (2, [.null, .null, .null, .null, .null, .int 0, .int 0, .int 0, .int 0, .int 0, .int 0, .int 0]))]) := hD
  refine lv_dup hx hb dL_law_3 rfl ?_
  refine weI (wr := []) (wd := [(q0, .inr (2, [.null, .null, .null, .null, .null, .int 0, .int 0, .int 0, .int 0, .int 0, .int 0, .int 0]))]) (as := []) (rest := [.ref q0]) C (i_X0_init l G q0) F_X0_init rfl bw80 bw81 rfl (hE.S hS hAB) hP hD hS hA hAB hl.1 dL_law_4 ⟨(Nat.le_of_ble_eq_true rfl), (Nat.le_of_ble_eq_true rfl)⟩ rfl (Nat.le_of_ble_eq_true rfl) ⟨(Nat.le_of_ble_eq_true rfl), (Nat.le_of_ble_eq_true rfl)⟩ (fun r9 wd9 H locs hp9 hP hD hS => ?_)
  obtain ⟨rfl, a, rfl, rfl⟩ := hp9
  have hP : va_P (gD G) vwCl ((wX G a sx0)) H := hP
  have hD : va_D (fun q : Nat => s.heap.size ≤ q) ((wX G a sx0)) := hD
  refine W.eq (g2 := F0 m 7 ls [.ref (a 0)]) rfl ?_
  refine lv_astore_n (lv' := [(1, .ref (a 0)), (0, .ref b)]) hx hb dL_law_7 rfl hl (Nat.le_of_ble_eq_true rfl) rfl (fun ls hl => ?_)
  refine va_new (D := gD G) (cl := vwCl) (tys := gT G) (ws := ((wX G a sx0))) (ci := 4) (fs := [.int 0, .null, .null, .null, .null, .int 0, .int 0, .int 0, .int 0, .int 0, .int 0, .int 0]) (C := RX2) (T := TX2) (N := 12) hx hb hw inB_X2 tyX2 tyX2_ok hown (hw _ bw1157) (hw _ bw1158) (hw _ bw59) hE.K hP hD hS hA rfl (fun j hj => by rcases (show j = 0 ∨ j = 1 ∨ j = 2 ∨ j = 3 ∨ j = 4 ∨ j = 5 ∨ j = 6 ∨ j = 7 ∨ j = 8 ∨ j = 9 ∨ j = 10 ∨ j = 11 by omega) with rfl | rfl | rfl | rfl | rfl | rfl | rfl | rfl | rfl | rfl | rfl | rfl <;> rfl) (Nat.le_of_ble_eq_true rfl) (Nat.le_of_ble_eq_true rfl) dL_law_8 (fun q8 H hP hD hS => ?_)
  have hP : va_P (gD G) vwCl ((wX G a sx0) ++ [(q8, .inr (4, [.int 0, .null, .null, .null, .null, .int 0, .int 0, .int 0, .int 0, .int 0, .int 0, .int 0]))]) H := hP
  have hD : va_D (fun q : Nat => s.heap.size ≤ q) ((wX G a sx0) ++ [(q8, .inr (4, [.int 0, .null, .null, .null, .null, .int 0, .int 0, .int 0, .int 0, .int 0, .int 0, .int 0]))]) := hD
  refine lv_dup hx hb dL_law_11 rfl ?_
  refine weI (wr := ((wX G a sx0))) (wd := [(q8, .inr (4, [.int 0, .null, .null, .null, .null, .int 0, .int 0, .int 0, .int 0, .int 0, .int 0, .int 0]))]) (as := []) (rest := [.ref q8]) C (i_X2_init l G q8) F_X2_init rfl bw1159 bw1160 rfl (hE.S hS hAB) hP hD hS hA hAB hl.1 dL_law_12 ⟨(Nat.le_of_ble_eq_true rfl), (Nat.le_of_ble_eq_true rfl)⟩ rfl (Nat.le_of_ble_eq_true rfl) ⟨(Nat.le_of_ble_eq_true rfl), (Nat.le_of_ble_eq_true rfl)⟩ (fun r9 wd9 H locs hp9 hP hD hS => ?_)
  obtain ⟨rfl, bb, rfl, rfl⟩ := hp9
  have hP : va_P (gD G) vwCl ((wX G a sx0) ++ (wM G bb sm0)) H := hP
  have hD : va_D (fun q : Nat => s.heap.size ≤ q) ((wX G a sx0) ++ (wM G bb sm0)) := hD
  refine W.eq (g2 := F0 m 15 ls [.ref (bb 0)]) rfl ?_
  refine lv_astore_n (lv' := [(2, .ref (bb 0)), (1, .ref (a 0)), (0, .ref b)]) hx hb dL_law_15 rfl hl (Nat.le_of_ble_eq_true rfl) rfl (fun ls hl => ?_)
  refine va_new (D := gD G) (cl := vwCl) (tys := gT G) (ws := ((wX G a sx0) ++ (wM G bb sm0))) (ci := 3) (fs := [.long 0, .null]) (C := RX1) (T := TX1) (N := 2) hx hb hw inB_X1 tyX1 tyX1_ok hown (hw _ bw287) (hw _ bw288) (hw _ bw60) hE.K hP hD hS hA rfl (fun j hj => by rcases (show j = 0 ∨ j = 1 by omega) with rfl | rfl <;> rfl) (Nat.le_of_ble_eq_true rfl) (Nat.le_of_ble_eq_true rfl) dL_law_16 (fun q16 H hP hD hS => ?_)
  have hP : va_P (gD G) vwCl ((wX G a sx0) ++ (wM G bb sm0) ++ [(q16, .inr (3, [.long 0, .null]))]) H := hP
  have hD : va_D (fun q : Nat => s.heap.size ≤ q) ((wX G a sx0) ++ (wM G bb sm0) ++ [(q16, .inr (3, [.long 0, .null]))]) := hD
  refine lv_dup hx hb dL_law_19 rfl ?_
  refine weIN (wr := ((wX G a sx0) ++ (wM G bb sm0))) (wd := [(q16, .inr (3, [.long 0, .null]))]) (as := []) (rest := [.ref q16]) C (i_X1_init l G q16) F_X1_init rfl (va_Nw.of (A := #[Value.ref b]) rfl (hts (Cond.methodLinkNest RL 196 yX1_init "DaytimepairLaw") (by decide +kernel))) bw290 rfl (hE.S hS hAB) hP hD hS hA hAB hl.1 dL_law_20 ⟨(Nat.le_of_ble_eq_true rfl), (Nat.le_of_ble_eq_true rfl)⟩ rfl (Nat.le_of_ble_eq_true rfl) ⟨(Nat.le_of_ble_eq_true rfl), (Nat.le_of_ble_eq_true rfl)⟩ (fun r9 wd9 H locs hp9 hP hD hS => ?_)
  obtain ⟨rfl, rfl⟩ := hp9
  have hP : va_P (gD G) vwCl ((wX G a sx0) ++ (wM G bb sm0) ++ [(q16, .inr (3, [.long 0, .null]))]) H := hP
  have hD : va_D (fun q : Nat => s.heap.size ≤ q) ((wX G a sx0) ++ (wM G bb sm0) ++ [(q16, .inr (3, [.long 0, .null]))]) := hD
  refine W.eq (g2 := F0 m 23 ls [.ref q16]) rfl ?_
  refine lv_astore_n (lv' := [(3, .ref q16), (2, .ref (bb 0)), (1, .ref (a 0)), (0, .ref b)]) hx hb dL_law_23 rfl hl (Nat.le_of_ble_eq_true rfl) rfl (fun ls hl => ?_)
  refine lv_iconst (v := (0 : Int32)) hx hb dL_law_24 qi_0 ?_
  refine lv_istore (lv' := [(4, .int (0 : Int32)), (3, .ref q16), (2, .ref (bb 0)), (1, .ref (a 0)), (0, .ref b)]) hx hb dL_law_25 hl (Nat.le_of_ble_eq_true rfl) rfl (fun ls hl => ?_)
  have hP : va_P (gD G) vwCl (wM G bb sm0 ++ wH G a q16 0 .null sx0) H := hP.sub [6, 7, 8, 9, 10, 11, 0, 1, 2, 3, 4, 5] rfl
  have hD : va_D (fun q : Nat => s.heap.size ≤ q) (wM G bb sm0 ++ wH G a q16 0 .null sx0) := hD.sub [6, 7, 8, 9, 10, 11, 0, 1, 2, 3, 4, 5] (by decide) rfl
  refine W.widen (k := 14) (n := 100) (by decide) (by decide) ?_
  exact law_loop (b9 := b) ⟨C, hE, hN, hX, hbl, hl9, hL, hA, hAB, hbA⟩ hr hlocks 513 0 14 100 (by omega) (by decide) 0 .null sx0 sm0 _ _ ls rel_init hP hD hS (lv_sub hl [4, 3, 2, 1, 0] rfl) (by decide) (by decide)
