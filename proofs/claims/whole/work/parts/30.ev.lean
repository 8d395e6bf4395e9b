/-! the environment at the law's entry, out of the Statement's premises -/
section KE
abbrev pre9 : Cond := Jvm.Cond.and given_1 narrow_1
theorem mF {w : Cond} (i : Nat) (h : (flatC pre9)[i]? = some w) : w ∈ flatC pre9 := List.mem_of_getElem? h
theorem mDA : ∀ j : Nat, j < 12 → (flatC pre9)[7 + j]? = some (Cond.eq (.elem (.static "Daytimepair" "DAYS_AHEAD" "[I") (.int (Int32.ofNat j))) (.int (tDA j))) := by decide +kernel
theorem mD1 : ∀ j : Nat, j < 100 → (flatC pre9)[29 + j]? = some (Cond.eq (.elem (.static "java/lang/Integer" "DigitOnes" "[B") (.int (Int32.ofNat j))) (.int (tD1 j))) := by decide +kernel
theorem mD10 : ∀ j : Nat, j < 100 → (flatC pre9)[132 + j]? = some (Cond.eq (.elem (.static "java/lang/Integer" "DigitTens" "[B") (.int (Int32.ofNat j))) (.int (tD10 j))) := by decide +kernel
theorem evs_of {args : Array Value} {s : State} {t : Term} {n : Nat} {f : Nat → Value} {A : Nat → Prop} (hn : n < 2 ^ 31) (h1 : (Cond.exactly t "java/lang/String").before args s = true) (h2 : (Cond.eq (.field t "java/lang/String" "coder" "B") (.int 0)).before args s = true) (h3 : (Cond.arrayOf (.field t "java/lang/String" "value" "[B") .byte).before args s = true) (h4 : (Cond.eq (.length (.field t "java/lang/String" "value" "[B")) (.int (Int32.ofNat n))).before args s = true)
    (h5 : ∀ j : Nat, j < n → (Term.elem (.field t "java/lang/String" "value" "[B") (.int (Int32.ofNat j))).eval args s none [] s = some (f j)) (hA : ∀ a : Nat, a < s.heap.size → ¬ A a) : ∃ a v : Nat, t.eval args s none [] s = some (.ref a) ∧ va_O "java/lang/String" a A s s.heap ∧ va_OF "java/lang/String" "coder" "B" (.int 0) a A s s.heap ∧ va_OF "java/lang/String" "value" "[B" (.ref v) a A s s.heap ∧ va_T .byte v n f A s s.heap := by
  obtain ⟨a, c, cA, kA, q1, q2, q3, q4, q5, q6, -⟩ := Cond.exactly_spec (args := args) (first := s) (o := none) (s := s) (idx := []) (t := t) (cls := "java/lang/String") h1
  obtain ⟨v, hv, hT⟩ := va_Tof (f := f) (A := A) hn h3 (va_eqt h4) h5 hA
  exact ⟨a, v, q1, ⟨cA, q3, q5, by rw [q6]; exact q2, hA a (Array.getElem?_eq_some_iff.mp q3).1⟩, vk_OFof q1 (va_eqt h2) hA, vk_OFof q1 hv hA, hT⟩
theorem str_of {args : Array Value} {s : State} {t : Term} (h1 : (Cond.exactly t "java/lang/String").before args s = true) : ∃ a : Nat, t.eval args s none [] s = some (.ref a) := by
  obtain ⟨a, c, cA, kA, q1, -⟩ := Cond.exactly_spec (args := args) (first := s) (o := none) (s := s) (idx := []) (t := t) (cls := "java/lang/String") h1
  exact ⟨a, q1⟩
theorem arr_of {args : Array Value} {s : State} {ty : FieldType} (h : (Cond.arrayClass ty).before args s = true) : ∃ cA : ClassId, s.vm.findClass ("[" ++ ty.toString) = some cA ∧ ∃ (kA : Class) (comp : ClassId), s.vm.classes[cA]? = some kA ∧ kA.kind = .array comp ty := by
  obtain ⟨cA, kA, comp, h1, h2, h3⟩ := Cond.arrayClass_spec (args := args) (first := s) (o := none) (s := s) (idx := []) (type := ty) h
  exact ⟨cA, h1, kA, comp, h2, h3⟩
theorem kcl {s : State} {args : Array Value} (hts : ∀ w ∈ lw_tbl, w.before args s = true) : ∃ D : va_G, ∀ (c : Nat) (q : vw_C), vwCl[c]? = some q → u_Kn s q.1 q.2.1 q.2.2 (D.1 c) (D.2 c) := by
  obtain ⟨c0, i0, k0⟩ := u_known (C := RJ0) (T := TJ0) (N := 4) (n := 4) hts (mK5 [49, 51, 53, 55] (by decide +kernel)) (hts (.instantiable RJ0 4) (mJ4 171 (by decide +kernel)))
  obtain ⟨c1, i1, k1⟩ := u_known (C := RJ4) (T := TJ4) (N := 4) (n := 4) hts (mK4 [23, 25, 27, 29] (by decide +kernel)) (hts (.instantiable RJ4 4) (mJ4 2 (by decide +kernel)))
  obtain ⟨c2, i2, k2⟩ := u_known (C := RX0) (T := TX0) (N := 12) (n := 12) hts (mK1 [50, 52, 54, 56, 58, 60, 62, 64, 66, 68, 70, 72] (by decide +kernel)) (hts (.instantiable RX0 12) (mJ1 23 (by decide +kernel)))
  obtain ⟨c3, i3, k3⟩ := u_known (C := RX1) (T := TX1) (N := 2) (n := 2) hts (by decide +kernel) (hts (.instantiable RX1 2) (mJ1 232 (by decide +kernel)))
  obtain ⟨c4, i4, k4⟩ := u_known (C := RX2) (T := TX2) (N := 12) (n := 12) hts (mK5 [159, 161, 163, 165, 167, 169, 171, 173, 175, 177, 179, 181] (by decide +kernel)) (hts (.instantiable RX2 12) (mJ5 142 (by decide +kernel)))
  refine ⟨(fun k => if k = 0 then c0 else if k = 1 then c1 else if k = 2 then c2 else if k = 3 then c3 else c4, fun k => if k = 0 then i0 else if k = 1 then i1 else if k = 2 then i2 else if k = 3 then i3 else i4), ?_⟩
  intro c q hq
  match c, hq with
  | 0, hq => cases hq; exact k0
  | 1, hq => cases hq; exact k1
  | 2, hq => cases hq; exact k2
  | 3, hq => cases hq; exact k3
  | 4, hq => cases hq; exact k4
  | c + 5, hq => simp [vwCl] at hq
theorem ev_start {s : State} {args : Array Value} (hts : ∀ w ∈ lw_tbl, w.before args s = true) (hgv : pre9.before args s = true) : ∃ G : GT, gB G = s.heap.size ∧ EV G s s.heap := by
  have hs := flat_of_before _ hgv
  have hA : ∀ a : Nat, a < s.heap.size → ¬ (fun q : Nat => s.heap.size ≤ q) a := fun a h => Nat.not_le.mpr h
  obtain ⟨D, hD⟩ := kcl hts
  obtain ⟨cI, hI1, kI, pI, hI2, hI3⟩ := arr_of (hts (.arrayClass .int) (mJ1 75 (by decide +kernel)))
  obtain ⟨cL, hL1, kL, pL, hL2, hL3⟩ := arr_of (hts (.arrayClass .long) (mJ1 76 (by decide +kernel)))
  obtain ⟨cB, hB1, kB, pB, hB2, hB3⟩ := arr_of (hts (.arrayClass .byte) (mJ2 81 (by decide +kernel)))
  obtain ⟨t0, ht0, hT0⟩ := va_Tof (tm := .static "Daytimepair" "DAYS_AHEAD" "[I") (ty := .int) (N := 12) (f := fun j => .int (tDA j)) (A := fun q : Nat => s.heap.size ≤ q) (by decide) (hs _ (mF 5 (by decide +kernel))) (va_eqt (hs _ (mF 6 (by decide +kernel)))) (fun j hj => va_eqt (hs _ (mF _ (mDA j hj)))) hA
  obtain ⟨t1, ht1, hT1⟩ := va_Tof (tm := .static "java/lang/Integer" "DigitOnes" "[B") (ty := .byte) (N := 100) (f := fun j => .int (tD1 j)) (A := fun q : Nat => s.heap.size ≤ q) (by decide) (hs _ (mF 27 (by decide +kernel))) (va_eqt (hs _ (mF 28 (by decide +kernel)))) (fun j hj => va_eqt (hs _ (mF _ (mD1 j hj)))) hA
  obtain ⟨t2, ht2, hT2⟩ := va_Tof (tm := .static "java/lang/Integer" "DigitTens" "[B") (ty := .byte) (N := 100) (f := fun j => .int (tD10 j)) (A := fun q : Nat => s.heap.size ≤ q) (by decide) (hs _ (mF 130 (by decide +kernel))) (va_eqt (hs _ (mF 131 (by decide +kernel)))) (fun j hj => va_eqt (hs _ (mF _ (mD10 j hj)))) hA
  obtain ⟨a3, q3⟩ := str_of (t := .string RX0 202) (hs _ (mF 288 (by decide +kernel)))
  obtain ⟨a4, q4⟩ := str_of (t := .string RX0 209) (hs _ (mF 256 (by decide +kernel)))
  obtain ⟨a5, t7, q5, o5⟩ := evs_of (t := .string RX0 300) (n := 1) (f := fun _ => .int 33) (A := fun q : Nat => s.heap.size ≤ q) (by decide) (hs _ (mF 325 (by decide +kernel))) (hs _ (mF 326 (by decide +kernel))) (hs _ (mF 327 (by decide +kernel))) (hs _ (mF 328 (by decide +kernel))) (fun j hj => by
    have e : j = 0 := by omega
    subst e
    exact va_eqt (hs _ (mF 329 (by decide +kernel)))) hA
  obtain ⟨a6, t8, q6, o6⟩ := evs_of (t := .string RX2 204) (n := 0) (f := fun _ => .int 0) (A := fun q : Nat => s.heap.size ≤ q) (by decide) (hs _ (mF 333 (by decide +kernel))) (hs _ (mF 334 (by decide +kernel))) (hs _ (mF 335 (by decide +kernel))) (hs _ (mF 336 (by decide +kernel))) (fun j hj => absurd hj (Nat.not_lt_zero _)) hA
  have q5' : (Term.string RX2 235).eval args s none [] s = some (.ref a5) := va_eqR (t := .string RX0 300) (hs _ (mF 349 (by decide +kernel))) q5
  refine ⟨(s.heap.size, D, fun k => if k = 0 then cI else if k = 1 then cL else cB, fun k => ([t0, t1, t2, a3, a4, a5, a6, t7, t8] : List Nat).getD k 0), rfl, ⟨⟨hD, ?_⟩, ?_, ?_, ?_, ?_, ?_, va_Nw.of rfl (hts (.castable "[B" "java/lang/Cloneable") (mJ4 70 (by decide +kernel)))⟩, Nat.le_refl _, ?_, ?_, ?_, hT0, ?_, ?_, hT1, ?_, hT2, o5, o6⟩
  · intro k q hk
    match k, hk with
    | 0, hk => cases hk; exact ⟨fun n z => ⟨fun k h => (by cases h), kI, hI2, pI, hI3⟩, hI1⟩
    | 1, hk => cases hk; exact ⟨fun n z => ⟨fun k h => (by cases h), kL, hL2, pL, hL3⟩, hL1⟩
    | 2, hk => cases hk; exact ⟨fun n z => ⟨fun k h => (by cases h), kB, hB2, pB, hB3⟩, hB1⟩
    | k + 3, hk => simp [gT] at hk
  · exact vk_R.of (hts (.stringRef RX0 202 "there is no such moment") (mJ2 103 (by decide +kernel))) q3
  · exact vk_R.of (hts (.stringRef RX0 209 "a number is out of its range") (mJ2 55 (by decide +kernel))) q4
  · exact vk_R.of (hts (.stringRef RX0 300 "!") (mJ5 118 (by decide +kernel))) q5
  · exact vk_R.of (hts (.stringRef RX2 204 "") (mJ7 13 (by decide +kernel))) q6
  · exact vk_R.of (hts (.stringRef RX2 235 "!") (mJ7 87 (by decide +kernel))) q5'
  · exact vx_Zqof (hts _ (mJ2 42 (by decide +kernel))) (hts _ (mJ1 5 (by decide +kernel))) (hs _ (mF 19 (by decide +kernel))) hA
  · exact vx_Zqof (hts _ (mJ2 44 (by decide +kernel))) (hts _ (mJ1 5 (by decide +kernel))) (hs _ (mF 20 (by decide +kernel))) hA
  · exact va_Zref (hts _ (mJ1 118 (by decide +kernel))) (hts _ (mJ1 1 (by decide +kernel))) ht0 hA
  · exact va_Zof (hts _ (mJ4 11 (by decide +kernel))) (hts _ (mJ1 12 (by decide +kernel))) (va_eqt (hs _ (mF 21 (by decide +kernel)))) hA
  · exact va_Zref (hts _ (mJ4 219 (by decide +kernel))) (hts _ (mJ1 20 (by decide +kernel))) ht1 hA
  · exact va_Zref (hts _ (mJ4 221 (by decide +kernel))) (hts _ (mJ1 20 (by decide +kernel))) ht2 hA
theorem ne_start {s : State} {args : Array Value} (hts : ∀ w ∈ lw_tbl, w.before args s = true) (hgv : pre9.before args s = true) : NE s :=
  ⟨va_Nc.of (args := args) (flat_of_before _ hgv _ (mF 241 (by decide +kernel))), va_Nw.of (A := args) rfl (hts fN (mJ1 237 (by decide +kernel))), va_Nw.of (A := args) rfl (hts fS (mJ1 238 (by decide +kernel)))⟩
end KE
