theorem ll_in {L i : Nat} (hL : L ≤ 3072) (hi : i < 4000) (h : ¬ (nI L - (6 : Int32)) < nI i) : i + 6 ≤ L := by
  have e1 : (nI L - (6 : Int32)).toInt = (L : Int) - 6 := pk_sub_toInt (a := L) (b := 6) (by omega) (by omega)
  have e2 : (nI i).toInt = (i : Int) := nI_toInt (by omega)
  rw [Int32.lt_iff_toInt_lt, e1, e2] at h
  omega

set_option maxRecDepth 100000 in
set_option maxHeartbeats 4000000 in
theorem law_loop {p : Program} {l : Launch} {e : Env} {s : State} {m : MethodId} {below : List Frame} {meth : Method} {c : Code} {G : GT} {b9 L9 : Nat} {xs : Nat → Int32} {a bb : Nat → Nat} {o : Nat} (Z : LW p l s m meth c G b9 L9 xs) (hret : meth.sig.returnType = ret) (hlocks : meth.locks = false) : ∀ (fu i cells slots : Nat), L9 < i + 6 * fu → i < 4000 → ∀ (n : Int64) (sv : Value) (S : SX) (T : SM) (H : Heap) (locs : List Loc) (ls : Array Slot), Rel S T → va_P (gD G) vwCl (wM G bb T ++ wH G a o n sv S) H → va_D (fun q : Nat => s.heap.size ≤ q) (wM G bb T ++ wH G a o n sv S) → va_S (fun q : Nat => s.heap.size ≤ q) s.heap H locs → lv_has ls 7 [(0, .ref b9), (1, .ref (a 0)), (2, .ref (bb 0)), (3, .ref o), (4, .int (nI i))] → cells + 200 * fu ≤ 791366 → slots + 5000 * fu ≤ 6722007 → W p l e room_1 s m #[Value.ref b9] below meth c H locs (cells) (slots) (lw_Z below #[Value.ref b9] s) (F0 m 27 ls []) := by
  obtain ⟨C, hE, hN, hX, hbl, hl9, hL9, hA, hAB, hbA⟩ := id Z
  have hx := C.1
  have hb := C.2.1
  have hml := C.2.2.1
  have hown := C.2.2.2.1
  have hw := C.2.2.2.2
  intro fu
  induction fu with
  | zero =>
    intro i cells slots h1 h2 n sv S T H locs ls hR hP hD hS hl h3 h4
    refine lv_iload hx hb dL_law_27 (lv_at hl 4 rfl) ?_
    refine lv_aload_n hx hb dL_law_29 rfl (lv_at hl 0 rfl) ?_
    refine va_slen hx hb hX hbl hbA hS dL_law_30 ?_
    refine lv_bipush (v := (6 : Int32)) hx hb dL_law_31 qb_6 ?_
    refine lv_isub hx hb dL_law_33 ?_
    refine lv_icmp_gt (tgt := 2418) hx hb dL_law_34 (by decide) (fun c_1 => ?_) (fun c_1 => ?_)
    · refine lv_iconst (v := (1 : Int32)) hx hb dL_law_2418 qi_1 ?_
      refine va_forget (fun q hq => hS.2.2 q hq) ?_
      refine W.widen (k := 791366) (n := 6722007) (by omega) (by omega) ?_
      exact lw_ret hx hb hret hlocks dL_law_2419
    · have z := ll_in hL9 h2 c_1
      omega
  | succ fu ih =>
    intro i cells slots h1 h2 n sv S T H locs ls hR hP hD hS hl h3 h4
    have hroom : cells + 200 ≤ room_1.cells ∧ slots + 5000 ≤ room_1.slots := ⟨by show _ ≤ 791366; omega, by show _ ≤ 6722007; omega⟩
    refine lv_iload hx hb dL_law_27 (lv_at hl 4 rfl) ?_
    refine lv_aload_n hx hb dL_law_29 rfl (lv_at hl 0 rfl) ?_
    refine va_slen hx hb hX hbl hbA hS dL_law_30 ?_
    refine lv_bipush (v := (6 : Int32)) hx hb dL_law_31 qb_6 ?_
    refine lv_isub hx hb dL_law_33 ?_
    refine lv_icmp_gt (tgt := 2418) hx hb dL_law_34 (by decide) (fun c_1 => ?_) (fun c_1 => ?_)
    · refine lv_iconst (v := (1 : Int32)) hx hb dL_law_2418 qi_1 ?_
      refine va_forget (fun q hq => hS.2.2 q hq) ?_
      refine W.widen (k := 791366) (n := 6722007) (by omega) (by omega) ?_
      exact lw_ret hx hb hret hlocks dL_law_2419
    · have hi : i + 6 ≤ L9 := ll_in hL9 h2 c_1
      refine law_turn Z hi ⟨by have := hroom.1; omega, by have := hroom.2; omega⟩ hR hP hD hS hl (fun n sv S T H locs ls hR hP hD hS hl => ?_)
      refine lv_iinc (v := (nI (i + 6))) (lv' := [(4, .int (nI (i + 6))), (0, .ref b9), (1, .ref (a 0)), (2, .ref (bb 0)), (3, .ref o)]) hx hb dL_law_2412 hl (k := 4) rfl (nI_add i 6) (Nat.le_of_ble_eq_true rfl) rfl (fun ls hl => ?_)
      refine lv_goto (tgt := 27) hx hb dL_law_2415 (by decide) ?_
      exact ih (i + 6) _ _ (by omega) (by omega) n sv S T _ _ ls hR hP hD hS (lv_sub hl [1, 2, 3, 4, 0] rfl) (by omega) (by omega)
theorem xsel_ok {args : Array Value} {s : State} (hts : ∀ w ∈ lw_tbl, w.before args s = true) : ∀ w ∈ xsel ++ lw_tbl, w.before args s = true := by
  have z1 : Cond.selects RJ4 yJ5_isLatin1_aae02 yJ5_isLatin1_aae02 ∈ lw_tbl := List.mem_of_getElem? (i := 855) (by decide +kernel)
  have z2 : Cond.instanceMethod yJ5_isLatin1_aae02 ∈ lw_tbl := List.mem_of_getElem? (i := 853) (by decide +kernel)
  intro w hw
  rcases List.mem_append.mp hw with hw | hw
  · rcases List.mem_cons.mp hw with rfl | hw
    · exact selP (hts _ z1) (hts _ z2) rfl (by decide +kernel) (hts _ (List.mem_of_getElem? (i := 820) (by decide +kernel))) (hts _ (List.mem_of_getElem? (i := 821) (by decide +kernel)))
    · rcases List.mem_cons.mp hw with rfl | hw
      · exact selP (hts _ z1) (hts _ z2) rfl (by decide +kernel) (hts _ (List.mem_of_getElem? (i := 824) (by decide +kernel))) (hts _ (List.mem_of_getElem? (i := 825) (by decide +kernel)))
      · rcases List.mem_cons.mp hw with rfl | hw
        · exact selP (hts _ z1) (hts _ z2) rfl (by decide +kernel) (hts _ (List.mem_of_getElem? (i := 1037) (by decide +kernel))) (hts _ (List.mem_of_getElem? (i := 1038) (by decide +kernel)))
        · rcases List.mem_cons.mp hw with rfl | hw
          · exact selP (hts _ z1) (hts _ z2) rfl (by decide +kernel) (hts _ (List.mem_of_getElem? (i := 1041) (by decide +kernel))) (hts _ (List.mem_of_getElem? (i := 1042) (by decide +kernel)))
          · cases hw
  · exact hts w hw
