/-! the law's helpers that put a text into Out; calls from the law -/
section KU
def HU (l : Launch) (G : GT) (y : MethodName) (b : ByteArray) (maxL : Nat) (hh : HH) (k mc ms : Nat) (as : List Value) (wd : va_W) (P : Option Value → va_W → Prop) : Prop := ∀ sz : Nat, Met l y (Cond.codeWith y b maxL (some .int) hh :: BW) (rmK k mc ms) (fun v U => PW G as wd sz v U ∧ NE U) (QE G P (va_A wd sz)) mc ms (va_A wd sz)
theorem HU.ofW {l : Launch} {G : GT} {y : MethodName} {b : ByteArray} {maxL : Nat} {hh : HH} {k mc ms : Nat} {as : List Value} {wd : va_W} {P : Option Value → va_W → Prop} {own : String} (hc : y.cls = own) (hy : plainName y.cls = true) (hn : (lg_sl as).length ≤ maxL)
    (body : ∀ (p : Program) (e : Env) (s : State) (m : MethodId) (below : List Frame) (meth : Method) (c : Code) (A : Nat → Prop), CallFix p m c b maxL s as.toArray BW own → meth.sig.returnType = some .int → meth.locks = false → c.exceptionTable.toList = tableOf hh → NE s → EV G s s.heap → va_P (gD G) vwCl wd s.heap → va_D A wd → (∀ q : Nat, s.heap.size ≤ q → A q) → (∀ q : Nat, A q → gB G ≤ q) → va_S A s.heap s.heap [] → ∀ ls : Array Slot, lv_has ls maxL (lv_args 0 as) →
      W p l e (rmK k mc ms) s m as.toArray below meth c s.heap [] 0 0 (MQ below (QE G P A) as.toArray s mc ms A) (F0 m 0 ls [])) : HU l G y b maxL hh k mc ms as wd P := by
  intro sz
  refine va_MetW (cc := b) (maxL := maxL) (ret := some .int) (hh := hh) hy rfl ?_
  intro p e s m args below meth c s₁ B hml hv
  obtain ⟨⟨rfl, hsz, hE, hP, hD⟩, hN⟩ := hv
  subst hsz
  have hts := atoms_spec (ws := Cond.codeWith y b maxL (some .int) hh :: BW) B.pre
  have hl := lv_entry as (n := maxL) hn
  rw [lg_entry_eq]
  refine body p e s m below meth c (va_A wd s.heap.size) ⟨B.exec, B.bytes, hml, ?_, fun w hw => hts w (List.mem_cons_of_mem _ hw)⟩ B.returns B.notSynchronized (vx_table (x := y) B (hts _ List.mem_cons_self)) hN hE hP hD.self (fun q h => Or.inr h) ?_ va_S.rf _ hl
  · rw [← hc]
    exact findClass_of_methodNamed B.named
  · intro q h
    rcases h with ⟨j, x, h⟩ | h
    · exact hD.2 j _ h
    · exact Nat.le_trans hE.2.1 h
theorem P_swap {D : va_G} {w1 w2 : va_W} {H : Heap} (h : va_P D vwCl (w1 ++ w2) H) : va_P D vwCl (w2 ++ w1) H := by
  intro k q hk
  rcases Nat.lt_or_ge k w2.length with g | g
  · rw [List.getElem?_append_left g] at hk
    exact h (w1.length + k) q (by rw [List.getElem?_append_right (by omega)]; simpa using hk)
  · rw [List.getElem?_append_right g] at hk
    exact h (k - w2.length) q (by rw [List.getElem?_append_left (List.getElem?_eq_some_iff.mp hk).1]; exact hk)
theorem D_swap {A : Nat → Prop} {w1 w2 : va_W} (h : va_D A (w1 ++ w2)) : va_D A (w2 ++ w1) := by
  have key : ∀ (i : Nat) (q : Nat × va_E), (w2 ++ w1)[i]? = some q → (w1 ++ w2)[if i < w2.length then w1.length + i else i - w2.length]? = some q := by
    intro k q hk
    rcases Nat.lt_or_ge k w2.length with g | g
    · rw [List.getElem?_append_left g] at hk
      rw [if_pos g, List.getElem?_append_right (by omega)]; simpa using hk
    · rw [List.getElem?_append_right g] at hk
      rw [if_neg (by omega), List.getElem?_append_left (List.getElem?_eq_some_iff.mp hk).1]; exact hk
  refine ⟨fun i j p q hi hj e => ?_, fun k q hk => h.2 _ q (key k q hk)⟩
  have hi0 := (List.getElem?_eq_some_iff.mp hi).1
  have hj0 := (List.getElem?_eq_some_iff.mp hj).1
  simp at hi0 hj0
  have := h.1 _ _ p q (key i p hi) (key j q hj) e
  split at this <;> split at this <;> omega
variable {p : Program} {l : Launch} {e : Env} {R : Room} {s : State} {m : MethodId} {args : Array Value} {below : List Frame} {meth : Method} {c : Code} {H : Heap} {locs : List Loc} {cells slots : Nat} {Q : State → Prop}
variable {cc : ByteArray} {pc : Nat} {ls : Array Slot} {rest st0 st1 : List Value} {G : GT}
theorem run_mono {mc ms : Nat} {g : JFrame} {Qa Qb : State → Outcome → State → Prop} {free : Addr → Prop} (h : ∀ st o t, Qa st o t → Qb st o t) (hr : va_Run p l e R s m args below meth c H locs cells slots mc ms g rest Qa free) : va_Run p l e R s m args below meth c H locs cells slots mc ms g rest Qb free := by
  intro T hT X
  obtain ⟨v, st₀, t, T', L, h0, X', hL, e1, e2, hq, st⟩ := hr T hT X
  exact ⟨v, st₀, t, T', L, h0, X', hL, e1, e2, h _ _ _ hq, st⟩
/-- what a call leaves, its world ahead of the rest, its room rounded up -/
theorem we0s {P : Option Value → va_W → Prop} {mc ms MC MS : Nat} {A : Nat → Prop} {wd wr : va_W} {a : Array Value} (h1 : mc ≤ MC) (h2 : ms ≤ MS) (hP : va_P (gD G) vwCl (wr ++ wd) H) (hD : va_D A (wr ++ wd)) (hS : va_S A s.heap H locs) (hA : ∀ q : Nat, s.heap.size ≤ q → A q) (hr : va_Run p l e R s m args below meth c H locs cells slots mc ms (F0 m pc ls st0) rest (QE G P (va_A wd H.size) a) (va_A wd H.size))
    (kk : ∀ (r : Option Value) (wd' : va_W) (H1 : Heap) (locs1 : List Loc), P r wd' → va_P (gD G) vwCl (wd' ++ wr) H1 → va_D A (wd' ++ wr) → va_S A s.heap H1 locs1 → W p l e R s m args below meth c H1 locs1 (cells + MC) (slots + MS) Q (F0 m (pc + 3) ls (r.toList ++ rest))) : W p l e R s m args below meth c H locs cells slots Q (F0 m pc ls st0) :=
  we0 hP hD hS hA hr (fun r wd' H1 locs1 z q d z2 => W.widen (by omega) (by omega) (kk r wd' H1 locs1 z (P_swap q) (D_swap d) z2))
/-- one of the helper's contracts, and what it gives -/
def HOK (l : Launch) (G : GT) (y : MethodName) (b : ByteArray) (maxL : Nat) (hh : HH) (as : List Value) (wd : va_W) (MC MS : Nat) (P : Option Value → va_W → Prop) : Prop := ∃ k mc ms : Nat, k ≤ 12 ∧ mc ≤ MC ∧ ms ≤ MS ∧ ((∃ (wd' : va_W) (r : Int32), HE l G y b maxL hh k mc ms as wd wd' r ∧ P (some (.int r)) wd') ∨ HU l G y b maxL hh k mc ms as wd P)
theorem lwHelp {own : String} {nL index : Nat} {y : MethodName} {b : ByteArray} {maxL n MC MS : Nat} {hh : HH} {as : List Value} {wr wd : va_W} {P : Option Value → va_W → Prop} {A : Nat → Prop} (C : CallFix p m c cc nL s args BW own) (hM : HOK l G y b maxL hh as wd MC MS P) (hcode : Cond.codeWith y b maxL (some .int) hh ∈ BW) (hini : Cond.initialized y.cls ∈ BW) (hd : y.cls ≠ "java/lang/invoke/MethodHandle" ∧ y.cls ≠ "java/lang/invoke/VarHandle" ∧ (parseMethodDescriptor y.desc).map (fun d => d.parameters.length) = some n) (hn : as.length = n) (hL : Cond.methodLink own index y ∈ BW) (hst : Cond.static y ∈ BW) (hN : NE s) (hE : EV G s H) (hP : va_P (gD G) vwCl (wr ++ wd) H) (hD : va_D A (wr ++ wd)) (hS : va_S A s.heap H locs) (hA : ∀ q : Nat, s.heap.size ≤ q → A q) (hAB : ∀ q : Nat, A q → gB G ≤ q)
    (hl : ls.size = nL) (hdg : decode cc pc = .ok (.invokestatic index, 3)) (hR : 13 ≤ R.frames ∧ 8 + (maxL + 11) + 1200 ≤ R.locals) (hs0 : st0 = as.reverse ++ rest) (hW : (rest.map fun v => v.category).sum ≤ 8) (hf : cells + MC ≤ R.cells ∧ slots + MS ≤ R.slots)
    (kk : ∀ (r : Option Value) (wd' : va_W) (H1 : Heap) (locs1 : List Loc), P r wd' → va_P (gD G) vwCl (wd' ++ wr) H1 → va_D A (wd' ++ wr) → va_S A s.heap H1 locs1 → W p l e R s m args below meth c H1 locs1 (cells + MC) (slots + MS) Q (F0 m (pc + 3) ls (r.toList ++ rest))) : W p l e R s m args below meth c H locs cells slots Q (F0 m pc ls st0) := by
  obtain ⟨k, mc, ms, h0, h1, h2, hM⟩ := hM
  have hG : GoodIn BW (va_wsS own index y (Cond.codeWith y b maxL (some .int) hh :: BW)) := by
    intro w hw
    unfold va_wsS at hw
    rcases List.mem_append.mp hw with hw | hw
    · rcases List.mem_cons.mp hw with rfl | hw
      · exact ⟨hL, gBW hL⟩
      · rcases List.mem_cons.mp hw with rfl | hw
        · exact ⟨hst, gBW hst⟩
        · rcases List.mem_cons.mp hw with rfl | hw
          · exact ⟨hini, gBW hini⟩
          · cases hw
    · exact gcBW hcode w hw
  have cw := vx_cwSW (R := R) (mc := mc) (ms := ms) (rm := rmK k mc ms) n C.2.2.2.2 hG rfl rfl rfl hd ⟨by show k + 1 ≤ _; omega, by show 8 + (maxL + 11) + 100 * k ≤ _; omega⟩
  have hbl : ∀ sz : Nat, FrameBlind (fun v U => PW G as wd sz v U ∧ NE U) := fun sz a U g mk q => ⟨PW.blind a U g mk q.1, NE.same (U := U.calling g mk a) rfl q.2⟩
  have hpre : PreS s H (fun v U => PW G as wd H.size v U ∧ NE U) as := ⟨hbl _, fun U hU hW => ⟨⟨rfl, by rw [hU], by rw [hU]; exact EV.warm hW hE, by rw [hU]; exact P_tl hP, (D_tl hD).weaken (fun _ q _ h => hAB q.1 h)⟩, NE.warm hW hN⟩⟩
  have hf2 : cells + mc ≤ R.cells ∧ slots + ms ≤ R.slots := ⟨by omega, by omega⟩
  rcases hM with ⟨wd', r, hM, hp⟩ | hM
  · exact we0s (a := #[]) h1 h2 hP hD hS hA (run_mono (fun st o t q => ⟨some (.int r), wd', q.1, ⟨rfl, rfl⟩, q.2⟩) (vx_runSW (As := as) (rest := rest) C (hM H.size) cw hpre rfl hn hl hs0 (lv_room hW) hdg hf2)) (P := fun r' w => r' = some (.int r) ∧ w = wd') (fun r' w H1 locs1 z q d z2 => by
      obtain ⟨rfl, rfl⟩ := z
      exact kk _ _ H1 locs1 hp q d z2)
  · exact we0s h1 h2 hP hD hS hA (vx_runSW (As := as) (rest := rest) C (hM H.size) cw hpre rfl hn hl hs0 (lv_room hW) hdg hf2) kk
/-- a method of the class or the reference, called by the law: a writer -/
theorem lwWR {own : String} {nL index : Nat} {y : MethodName} {b : ByteArray} {maxL k n mc ms MC MS : Nat} {ret : Option FieldType} {o : Nat} {as : List Value} {wr wd wd' : va_W} {r : Option Value} {cl : String} {A : Nat → Prop} (h1 : mc ≤ MC) (h2 : ms ≤ MS) (C : CallFix p m c cc nL s args BW own) (hM : WR l G y b maxL ret k mc ms (.ref o :: as) wd wd' r) (F : CF y b maxL ret n) (hn : as.length = n) (hL : Cond.methodLink own index y ∈ BW) (hst : Cond.instanceMethod y ∈ BW) (hse : Cond.selects cl y y ∈ BW) (hE : EV G s H) (hP : va_P (gD G) vwCl (wr ++ wd) H) (hD : va_D A (wr ++ wd)) (hS : va_S A s.heap H locs) (hA : ∀ q : Nat, s.heap.size ≤ q → A q) (hAB : ∀ q : Nat, A q → gB G ≤ q)
    (hrv : ∃ cellB : Cell, H[o]? = some cellB ∧ cellB.vm.isStatics = false ∧ s.vm.findClass cl = some cellB.cls)
    (hl : ls.size = nL) (hdg : decode cc pc = .ok (.invokevirtual index, 3)) (hR : (rmK k mc ms).frames + 1 ≤ R.frames ∧ 16 + (maxL + 11) + (rmK k mc ms).locals ≤ R.locals) (hs0 : st0 = as.reverse ++ .ref o :: rest) (hW : (rest.map fun v => v.category).sum ≤ 16) (hf : cells + MC ≤ R.cells ∧ slots + MS ≤ R.slots) (hs1 : r.toList ++ rest = st1)
    (kk : ∀ (H1 : Heap) (locs1 : List Loc), va_P (gD G) vwCl (wd' ++ wr) H1 → va_D A (wd' ++ wr) → va_S A s.heap H1 locs1 → W p l e R s m args below meth c H1 locs1 (cells + MC) (slots + MS) Q (F0 m (pc + 3) ls st1)) : W p l e R s m args below meth c H locs cells slots Q (F0 m pc ls st0) := by
  subst hs1
  exact we0s (a := #[]) h1 h2 hP hD hS hA (run_mono (fun st o t q => ⟨r, wd', q.1, ⟨rfl, rfl⟩, q.2⟩) (xrunV (As := as) (rest := rest) (C := cl) C (hM H.size) F hL hst hse rfl rfl hR ⟨PW.blind, hrv, fun U hU hW => ⟨rfl, by rw [hU], by rw [hU]; exact EV.warm hW hE, by rw [hU]; exact P_tl hP, (D_tl hD).weaken (fun _ q _ h => hAB q.1 h)⟩⟩ rfl hn hl hs0 (k_room hW) hdg ⟨by omega, by omega⟩)) (P := fun r' w => r' = r ∧ w = wd') (fun r' w H1 locs1 z q d z2 => by
    obtain ⟨rfl, rfl⟩ := z
    exact kk H1 locs1 q d z2)
/-- .. that makes a world -/
theorem lwWE {own : String} {nL index : Nat} {y : MethodName} {b : ByteArray} {maxL k n mc ms MC MS : Nat} {ret : Option FieldType} {o : Nat} {as : List Value} {wr wd : va_W} {P : Option Value → va_W → Prop} {cl : String} {A : Nat → Prop} (h1 : mc ≤ MC) (h2 : ms ≤ MS) (C : CallFix p m c cc nL s args BW own) (hM : WE l G y b maxL ret k mc ms (.ref o :: as) wd P) (F : CF y b maxL ret n) (hn : as.length = n) (hL : Cond.methodLink own index y ∈ BW) (hst : Cond.instanceMethod y ∈ BW) (hse : Cond.selects cl y y ∈ BW) (hE : EV G s H) (hP : va_P (gD G) vwCl (wr ++ wd) H) (hD : va_D A (wr ++ wd)) (hS : va_S A s.heap H locs) (hA : ∀ q : Nat, s.heap.size ≤ q → A q) (hAB : ∀ q : Nat, A q → gB G ≤ q)
    (hrv : ∃ cellB : Cell, H[o]? = some cellB ∧ cellB.vm.isStatics = false ∧ s.vm.findClass cl = some cellB.cls)
    (hl : ls.size = nL) (hdg : decode cc pc = .ok (.invokevirtual index, 3)) (hR : (rmK k mc ms).frames + 1 ≤ R.frames ∧ 16 + (maxL + 11) + (rmK k mc ms).locals ≤ R.locals) (hs0 : st0 = as.reverse ++ .ref o :: rest) (hW : (rest.map fun v => v.category).sum ≤ 16) (hf : cells + MC ≤ R.cells ∧ slots + MS ≤ R.slots)
    (kk : ∀ (r : Option Value) (wd' : va_W) (H1 : Heap) (locs1 : List Loc), P r wd' → va_P (gD G) vwCl (wd' ++ wr) H1 → va_D A (wd' ++ wr) → va_S A s.heap H1 locs1 → W p l e R s m args below meth c H1 locs1 (cells + MC) (slots + MS) Q (F0 m (pc + 3) ls (r.toList ++ rest))) : W p l e R s m args below meth c H locs cells slots Q (F0 m pc ls st0) :=
  we0s h1 h2 hP hD hS hA (xrunV (As := as) (rest := rest) (C := cl) C (hM H.size) F hL hst hse rfl rfl hR ⟨PW.blind, hrv, fun U hU hW => ⟨rfl, by rw [hU], by rw [hU]; exact EV.warm hW hE, by rw [hU]; exact P_tl hP, (D_tl hD).weaken (fun _ q _ h => hAB q.1 h)⟩⟩ rfl hn hl hs0 (k_room hW) hdg ⟨by omega, by omega⟩) kk
end KU
